theorem dX5_wanted_112 : decode cX5_wanted 112 = .ok (.irem, 1) := by decide +kernel
theorem dX5_wanted_113 : decode cX5_wanted 113 = .ok (.ireturn, 1) := by decide +kernel
theorem dX5_lay_0 : decode cX5_lay 0 = .ok (.aload_n 0, 1) := by decide +kernel
theorem dX5_lay_1 : decode cX5_lay 1 = .ok (.invokevirtual 125, 3) := by decide +kernel
theorem dX5_lay_4 : decode cX5_lay 4 = .ok (.ifCond .ne 6, 3) := by decide +kernel
theorem dX5_lay_7 : decode cX5_lay 7 = .ok (.bipush (-3), 2) := by decide +kernel
theorem dX5_lay_9 : decode cX5_lay 9 = .ok (.ireturn, 1) := by decide +kernel
theorem dX5_lay_10 : decode cX5_lay 10 = .ok (.iconst 0, 1) := by decide +kernel
theorem dX5_lay_11 : decode cX5_lay 11 = .ok (.istore_n 1, 1) := by decide +kernel
theorem dX5_lay_12 : decode cX5_lay 12 = .ok (.iconst 0, 1) := by decide +kernel
theorem dX5_lay_13 : decode cX5_lay 13 = .ok (.istore_n 2, 1) := by decide +kernel
theorem dX5_lay_14 : decode cX5_lay 14 = .ok (.iload_n 2, 1) := by decide +kernel
theorem dX5_lay_15 : decode cX5_lay 15 = .ok (.aload_n 0, 1) := by decide +kernel
theorem dX5_lay_16 : decode cX5_lay 16 = .ok (.getfield 82, 3) := by decide +kernel
theorem dX5_lay_19 : decode cX5_lay 19 = .ok (.if_icmp .ge 64, 3) := by decide +kernel
theorem dX5_lay_22 : decode cX5_lay 22 = .ok (.iconst 0, 1) := by decide +kernel
theorem dX5_lay_23 : decode cX5_lay 23 = .ok (.istore_n 3, 1) := by decide +kernel
theorem dX5_lay_24 : decode cX5_lay 24 = .ok (.iload_n 3, 1) := by decide +kernel
theorem dX5_lay_25 : decode cX5_lay 25 = .ok (.iconst 2, 1) := by decide +kernel
theorem dX5_lay_26 : decode cX5_lay 26 = .ok (.aload_n 0, 1) := by decide +kernel
theorem dX5_lay_27 : decode cX5_lay 27 = .ok (.getfield 88, 3) := by decide +kernel
theorem dX5_lay_30 : decode cX5_lay 30 = .ok (.imul, 1) := by decide +kernel
theorem dX5_lay_31 : decode cX5_lay 31 = .ok (.aload_n 0, 1) := by decide +kernel
theorem dX5_lay_32 : decode cX5_lay 32 = .ok (.getfield 85, 3) := by decide +kernel
theorem dX5_lay_35 : decode cX5_lay 35 = .ok (.imul, 1) := by decide +kernel
theorem dX5_lay_36 : decode cX5_lay 36 = .ok (.if_icmp .ge 41, 3) := by decide +kernel
theorem dX5_lay_39 : decode cX5_lay 39 = .ok (.iload_n 1, 1) := by decide +kernel
theorem dX5_lay_40 : decode cX5_lay 40 = .ok (.aload_n 0, 1) := by decide +kernel
theorem dX5_lay_41 : decode cX5_lay 41 = .ok (.bipush 24, 2) := by decide +kernel
theorem dX5_lay_43 : decode cX5_lay 43 = .ok (.aload_n 0, 1) := by decide +kernel
theorem dX5_lay_44 : decode cX5_lay 44 = .ok (.getfield 38, 3) := by decide +kernel
theorem dX5_lay_47 : decode cX5_lay 47 = .ok (.iload_n 2, 1) := by decide +kernel
theorem dX5_lay_48 : decode cX5_lay 48 = .ok (.iaload, 1) := by decide +kernel
theorem dX5_lay_49 : decode cX5_lay 49 = .ok (.imul, 1) := by decide +kernel
theorem dX5_lay_50 : decode cX5_lay 50 = .ok (.iload_n 3, 1) := by decide +kernel
theorem dX5_lay_51 : decode cX5_lay 51 = .ok (.iadd, 1) := by decide +kernel
theorem dX5_lay_52 : decode cX5_lay 52 = .ok (.aload_n 0, 1) := by decide +kernel
theorem dX5_lay_53 : decode cX5_lay 53 = .ok (.iload_n 2, 1) := by decide +kernel
theorem dX5_lay_54 : decode cX5_lay 54 = .ok (.iload_n 3, 1) := by decide +kernel
theorem dX5_lay_55 : decode cX5_lay 55 = .ok (.invokevirtual 129, 3) := by decide +kernel
theorem dX5_lay_58 : decode cX5_lay 58 = .ok (.invokevirtual 106, 3) := by decide +kernel
theorem dX5_lay_61 : decode cX5_lay 61 = .ok (.ifCond .eq 7, 3) := by decide +kernel
theorem dX5_lay_64 : decode cX5_lay 64 = .ok (.iconst 0, 1) := by decide +kernel
theorem dX5_lay_65 : decode cX5_lay 65 = .ok (.goto 4, 3) := by decide +kernel
theorem dX5_lay_68 : decode cX5_lay 68 = .ok (.iconst 1, 1) := by decide +kernel
theorem dX5_lay_69 : decode cX5_lay 69 = .ok (.iadd, 1) := by decide +kernel
theorem dX5_lay_70 : decode cX5_lay 70 = .ok (.istore_n 1, 1) := by decide +kernel
theorem dX5_lay_71 : decode cX5_lay 71 = .ok (.iinc 3 1, 3) := by decide +kernel
theorem dX5_lay_74 : decode cX5_lay 74 = .ok (.goto (-50), 3) := by decide +kernel
theorem dX5_lay_77 : decode cX5_lay 77 = .ok (.iinc 2 1, 3) := by decide +kernel
theorem dX5_lay_80 : decode cX5_lay 80 = .ok (.goto (-66), 3) := by decide +kernel
theorem dX5_lay_83 : decode cX5_lay 83 = .ok (.aload_n 0, 1) := by decide +kernel
theorem dX5_lay_84 : decode cX5_lay 84 = .ok (.iconst 1, 1) := by decide +kernel
theorem dX5_lay_85 : decode cX5_lay 85 = .ok (.putfield 91, 3) := by decide +kernel
theorem dX5_lay_88 : decode cX5_lay 88 = .ok (.iload_n 1, 1) := by decide +kernel
theorem dX5_lay_89 : decode cX5_lay 89 = .ok (.ireturn, 1) := by decide +kernel
theorem dX5_bitSum_0 : decode cX5_bitSum 0 = .ok (.iconst 0, 1) := by decide +kernel
theorem dX5_bitSum_1 : decode cX5_bitSum 1 = .ok (.istore_n 3, 1) := by decide +kernel
theorem dX5_bitSum_2 : decode cX5_bitSum 2 = .ok (.iconst 0, 1) := by decide +kernel
theorem dX5_bitSum_3 : decode cX5_bitSum 3 = .ok (.istore 4, 2) := by decide +kernel
theorem dX5_bitSum_5 : decode cX5_bitSum 5 = .ok (.iload 4, 2) := by decide +kernel
theorem dX5_bitSum_7 : decode cX5_bitSum 7 = .ok (.aload_n 0, 1) := by decide +kernel
theorem dX5_bitSum_8 : decode cX5_bitSum 8 = .ok (.getfield 82, 3) := by decide +kernel
theorem dX5_bitSum_11 : decode cX5_bitSum 11 = .ok (.if_icmp .ge 41, 3) := by decide +kernel
theorem dX5_bitSum_14 : decode cX5_bitSum 14 = .ok (.iload_n 3, 1) := by decide +kernel
theorem dX5_bitSum_15 : decode cX5_bitSum 15 = .ok (.aload_n 0, 1) := by decide +kernel
theorem dX5_bitSum_16 : decode cX5_bitSum 16 = .ok (.getfield 29, 3) := by decide +kernel
theorem dX5_bitSum_19 : decode cX5_bitSum 19 = .ok (.iload 4, 2) := by decide +kernel
theorem dX5_bitSum_21 : decode cX5_bitSum 21 = .ok (.iaload, 1) := by decide +kernel
theorem dX5_bitSum_22 : decode cX5_bitSum 22 = .ok (.iload_n 2, 1) := by decide +kernel
theorem dX5_bitSum_23 : decode cX5_bitSum 23 = .ok (.ishr, 1) := by decide +kernel
theorem dX5_bitSum_24 : decode cX5_bitSum 24 = .ok (.iconst 1, 1) := by decide +kernel
theorem dX5_bitSum_25 : decode cX5_bitSum 25 = .ok (.iand, 1) := by decide +kernel
theorem dX5_bitSum_26 : decode cX5_bitSum 26 = .ok (.aload_n 0, 1) := by decide +kernel
theorem dX5_bitSum_27 : decode cX5_bitSum 27 = .ok (.getfield 19, 3) := by decide +kernel
theorem dX5_bitSum_30 : decode cX5_bitSum 30 = .ok (.bipush 24, 2) := by decide +kernel
theorem dX5_bitSum_32 : decode cX5_bitSum 32 = .ok (.aload_n 0, 1) := by decide +kernel
theorem dX5_bitSum_33 : decode cX5_bitSum 33 = .ok (.getfield 38, 3) := by decide +kernel
theorem dX5_bitSum_36 : decode cX5_bitSum 36 = .ok (.iload 4, 2) := by decide +kernel
theorem dX5_bitSum_38 : decode cX5_bitSum 38 = .ok (.iaload, 1) := by decide +kernel
theorem dX5_bitSum_39 : decode cX5_bitSum 39 = .ok (.imul, 1) := by decide +kernel
theorem dX5_bitSum_40 : decode cX5_bitSum 40 = .ok (.iload_n 1, 1) := by decide +kernel
theorem dX5_bitSum_41 : decode cX5_bitSum 41 = .ok (.iadd, 1) := by decide +kernel
theorem dX5_bitSum_42 : decode cX5_bitSum 42 = .ok (.iaload, 1) := by decide +kernel
theorem dX5_bitSum_43 : decode cX5_bitSum 43 = .ok (.imul, 1) := by decide +kernel
theorem dX5_bitSum_44 : decode cX5_bitSum 44 = .ok (.iadd, 1) := by decide +kernel
theorem dX5_bitSum_45 : decode cX5_bitSum 45 = .ok (.istore_n 3, 1) := by decide +kernel
theorem dX5_bitSum_46 : decode cX5_bitSum 46 = .ok (.iinc 4 1, 3) := by decide +kernel
theorem dX5_bitSum_49 : decode cX5_bitSum 49 = .ok (.goto (-44), 3) := by decide +kernel
theorem dX5_bitSum_52 : decode cX5_bitSum 52 = .ok (.aload_n 0, 1) := by decide +kernel
theorem dX5_bitSum_53 : decode cX5_bitSum 53 = .ok (.iload_n 3, 1) := by decide +kernel
theorem dX5_bitSum_54 : decode cX5_bitSum 54 = .ok (.invokevirtual 117, 3) := by decide +kernel
theorem dX5_bitSum_57 : decode cX5_bitSum 57 = .ok (.i2l, 1) := by decide +kernel
theorem dX5_bitSum_58 : decode cX5_bitSum 58 = .ok (.lreturn, 1) := by decide +kernel
theorem dX5_product_0 : decode cX5_product 0 = .ok (.iload_n 1, 1) := by decide +kernel
theorem dX5_product_1 : decode cX5_product 1 = .ok (.iconst 0, 1) := by decide +kernel
theorem dX5_product_2 : decode cX5_product 2 = .ok (.aload_n 0, 1) := by decide +kernel
theorem dX5_product_3 : decode cX5_product 3 = .ok (.getfield 85, 3) := by decide +kernel
theorem dX5_product_6 : decode cX5_product 6 = .ok (.iconst 1, 1) := by decide +kernel
theorem dX5_product_7 : decode cX5_product 7 = .ok (.isub, 1) := by decide +kernel
theorem dX5_product_8 : decode cX5_product 8 = .ok (.invokestatic 98, 3) := by decide +kernel
theorem dX5_product_11 : decode cX5_product 11 = .ok (.ifCond .eq 10, 3) := by decide +kernel
theorem dX5_product_14 : decode cX5_product 14 = .ok (.aload_n 0, 1) := by decide +kernel
theorem dX5_product_15 : decode cX5_product 15 = .ok (.getfield 91, 3) := by decide +kernel
theorem dX5_product_18 : decode cX5_product 18 = .ok (.ifCond .ne 7, 3) := by decide +kernel
theorem dX5_product_21 : decode cX5_product 21 = .ok (.ldc2_w 132, 3) := by decide +kernel
theorem dX5_product_24 : decode cX5_product 24 = .ok (.lreturn, 1) := by decide +kernel
theorem dX5_product_25 : decode cX5_product 25 = .ok (.lconst 0, 1) := by decide +kernel
theorem dX5_product_26 : decode cX5_product 26 = .ok (.lstore_n 2, 1) := by decide +kernel
theorem dX5_product_27 : decode cX5_product 27 = .ok (.iconst 0, 1) := by decide +kernel
theorem dX5_product_28 : decode cX5_product 28 = .ok (.istore 4, 2) := by decide +kernel
theorem dX5_product_30 : decode cX5_product 30 = .ok (.iload 4, 2) := by decide +kernel
theorem dX5_product_32 : decode cX5_product 32 = .ok (.bipush 8, 2) := by decide +kernel
theorem dX5_product_34 : decode cX5_product 34 = .ok (.if_icmp .ge 86, 3) := by decide +kernel
theorem dX5_product_37 : decode cX5_product 37 = .ok (.lconst 1, 1) := by decide +kernel
theorem dX5_product_38 : decode cX5_product 38 = .ok (.iload 4, 2) := by decide +kernel
theorem dX5_product_40 : decode cX5_product 40 = .ok (.lshl, 1) := by decide +kernel
theorem dX5_product_41 : decode cX5_product 41 = .ok (.lstore 5, 2) := by decide +kernel
theorem dX5_product_43 : decode cX5_product 43 = .ok (.iconst 0, 1) := by decide +kernel
theorem dX5_product_44 : decode cX5_product 44 = .ok (.istore 7, 2) := by decide +kernel
theorem dX5_product_46 : decode cX5_product 46 = .ok (.iload 7, 2) := by decide +kernel
theorem dX5_product_48 : decode cX5_product 48 = .ok (.aload_n 0, 1) := by decide +kernel
theorem dX5_product_49 : decode cX5_product 49 = .ok (.getfield 88, 3) := by decide +kernel
theorem dX5_product_52 : decode cX5_product 52 = .ok (.if_icmp .ge 62, 3) := by decide +kernel
theorem dX5_product_55 : decode cX5_product 55 = .ok (.iconst 2, 1) := by decide +kernel
theorem dX5_product_56 : decode cX5_product 56 = .ok (.aload_n 0, 1) := by decide +kernel
theorem dX5_product_57 : decode cX5_product 57 = .ok (.getfield 88, 3) := by decide +kernel
theorem dX5_product_60 : decode cX5_product 60 = .ok (.imul, 1) := by decide +kernel
theorem dX5_product_61 : decode cX5_product 61 = .ok (.iload_n 1, 1) := by decide +kernel
theorem dX5_product_62 : decode cX5_product 62 = .ok (.imul, 1) := by decide +kernel
theorem dX5_product_63 : decode cX5_product 63 = .ok (.iload 7, 2) := by decide +kernel
theorem dX5_product_65 : decode cX5_product 65 = .ok (.iadd, 1) := by decide +kernel
theorem dX5_product_66 : decode cX5_product 66 = .ok (.istore 8, 2) := by decide +kernel
theorem dX5_product_68 : decode cX5_product 68 = .ok (.lload_n 2, 1) := by decide +kernel
theorem dX5_product_69 : decode cX5_product 69 = .ok (.lload 5, 2) := by decide +kernel
theorem dX5_product_71 : decode cX5_product 71 = .ok (.aload_n 0, 1) := by decide +kernel
theorem dX5_product_72 : decode cX5_product 72 = .ok (.iload 8, 2) := by decide +kernel
theorem dX5_product_74 : decode cX5_product 74 = .ok (.iload 4, 2) := by decide +kernel
theorem dX5_product_76 : decode cX5_product 76 = .ok (.invokevirtual 134, 3) := by decide +kernel
theorem dX5_product_79 : decode cX5_product 79 = .ok (.aload_n 0, 1) := by decide +kernel
theorem dX5_product_80 : decode cX5_product 80 = .ok (.iload 8, 2) := by decide +kernel
theorem dX5_product_82 : decode cX5_product 82 = .ok (.aload_n 0, 1) := by decide +kernel
theorem dX5_product_83 : decode cX5_product 83 = .ok (.getfield 88, 3) := by decide +kernel
theorem dX5_product_86 : decode cX5_product 86 = .ok (.iadd, 1) := by decide +kernel
theorem dX5_product_87 : decode cX5_product 87 = .ok (.iload 4, 2) := by decide +kernel
theorem dX5_product_89 : decode cX5_product 89 = .ok (.invokevirtual 134, 3) := by decide +kernel
theorem dX5_product_92 : decode cX5_product 92 = .ok (.lsub, 1) := by decide +kernel
theorem dX5_product_93 : decode cX5_product 93 = .ok (.lmul, 1) := by decide +kernel
theorem dX5_product_94 : decode cX5_product 94 = .ok (.ladd, 1) := by decide +kernel
theorem dX5_product_95 : decode cX5_product 95 = .ok (.lstore_n 2, 1) := by decide +kernel
theorem dX5_product_96 : decode cX5_product 96 = .ok (.lload 5, 2) := by decide +kernel
theorem dX5_product_98 : decode cX5_product 98 = .ok (.aload_n 0, 1) := by decide +kernel
theorem dX5_product_99 : decode cX5_product 99 = .ok (.getfield 16, 3) := by decide +kernel
theorem dX5_product_102 : decode cX5_product 102 = .ok (.iconst 1, 1) := by decide +kernel
theorem dX5_product_103 : decode cX5_product 103 = .ok (.iadd, 1) := by decide +kernel
theorem dX5_product_104 : decode cX5_product 104 = .ok (.i2l, 1) := by decide +kernel
theorem dX5_product_105 : decode cX5_product 105 = .ok (.lmul, 1) := by decide +kernel
theorem dX5_product_106 : decode cX5_product 106 = .ok (.lstore 5, 2) := by decide +kernel
theorem dX5_product_108 : decode cX5_product 108 = .ok (.iinc 7 1, 3) := by decide +kernel
theorem dX5_product_111 : decode cX5_product 111 = .ok (.goto (-65), 3) := by decide +kernel
theorem dX5_product_114 : decode cX5_product 114 = .ok (.iinc 4 1, 3) := by decide +kernel
theorem dX5_product_117 : decode cX5_product 117 = .ok (.goto (-87), 3) := by decide +kernel
theorem dX5_product_120 : decode cX5_product 120 = .ok (.lload_n 2, 1) := by decide +kernel
theorem dX5_product_121 : decode cX5_product 121 = .ok (.lreturn, 1) := by decide +kernel
theorem dX5_due_0 : decode cX5_due 0 = .ok (.iload_n 1, 1) := by decide +kernel
theorem dX5_due_1 : decode cX5_due 1 = .ok (.iconst 0, 1) := by decide +kernel
theorem dX5_due_2 : decode cX5_due 2 = .ok (.aload_n 0, 1) := by decide +kernel
theorem dX5_due_3 : decode cX5_due 3 = .ok (.getfield 85, 3) := by decide +kernel
theorem dX5_due_6 : decode cX5_due 6 = .ok (.iconst 1, 1) := by decide +kernel
theorem dX5_due_7 : decode cX5_due 7 = .ok (.isub, 1) := by decide +kernel
theorem dX5_due_8 : decode cX5_due 8 = .ok (.invokestatic 98, 3) := by decide +kernel
theorem dX5_due_11 : decode cX5_due 11 = .ok (.ifCond .ne 7, 3) := by decide +kernel
theorem dX5_due_14 : decode cX5_due 14 = .ok (.ldc2_w 132, 3) := by decide +kernel
theorem dX5_due_17 : decode cX5_due 17 = .ok (.lreturn, 1) := by decide +kernel
theorem dX5_due_18 : decode cX5_due 18 = .ok (.lconst 0, 1) := by decide +kernel
theorem dX5_due_19 : decode cX5_due 19 = .ok (.lstore_n 2, 1) := by decide +kernel
theorem dX5_due_20 : decode cX5_due 20 = .ok (.iconst 0, 1) := by decide +kernel
theorem dX5_due_21 : decode cX5_due 21 = .ok (.istore 4, 2) := by decide +kernel
theorem dX5_due_23 : decode cX5_due 23 = .ok (.iload 4, 2) := by decide +kernel
theorem dX5_due_25 : decode cX5_due 25 = .ok (.aload_n 0, 1) := by decide +kernel
theorem dX5_due_26 : decode cX5_due 26 = .ok (.getfield 82, 3) := by decide +kernel
theorem dX5_due_29 : decode cX5_due 29 = .ok (.if_icmp .ge 34, 3) := by decide +kernel
theorem dX5_due_32 : decode cX5_due 32 = .ok (.lload_n 2, 1) := by decide +kernel
theorem dX5_due_33 : decode cX5_due 33 = .ok (.aload_n 0, 1) := by decide +kernel
theorem dX5_due_34 : decode cX5_due 34 = .ok (.getfield 29, 3) := by decide +kernel
theorem dX5_due_37 : decode cX5_due 37 = .ok (.iload 4, 2) := by decide +kernel
theorem dX5_due_39 : decode cX5_due 39 = .ok (.iaload, 1) := by decide +kernel
theorem dX5_due_40 : decode cX5_due 40 = .ok (.i2l, 1) := by decide +kernel
theorem dX5_due_41 : decode cX5_due 41 = .ok (.aload_n 0, 1) := by decide +kernel
theorem dX5_due_42 : decode cX5_due 42 = .ok (.getfield 35, 3) := by decide +kernel
theorem dX5_due_45 : decode cX5_due 45 = .ok (.bipush 12, 2) := by decide +kernel
theorem dX5_due_47 : decode cX5_due 47 = .ok (.iload 4, 2) := by decide +kernel
theorem dX5_due_49 : decode cX5_due 49 = .ok (.imul, 1) := by decide +kernel
theorem dX5_due_50 : decode cX5_due 50 = .ok (.iload_n 1, 1) := by decide +kernel
theorem dX5_due_51 : decode cX5_due 51 = .ok (.iadd, 1) := by decide +kernel
theorem dX5_due_52 : decode cX5_due 52 = .ok (.iaload, 1) := by decide +kernel
theorem dX5_due_53 : decode cX5_due 53 = .ok (.i2l, 1) := by decide +kernel
theorem dX5_due_54 : decode cX5_due 54 = .ok (.lmul, 1) := by decide +kernel
theorem dX5_due_55 : decode cX5_due 55 = .ok (.ladd, 1) := by decide +kernel
theorem dX5_due_56 : decode cX5_due 56 = .ok (.lstore_n 2, 1) := by decide +kernel
theorem dX5_due_57 : decode cX5_due 57 = .ok (.iinc 4 1, 3) := by decide +kernel
theorem dX5_due_60 : decode cX5_due 60 = .ok (.goto (-37), 3) := by decide +kernel
theorem dX5_due_63 : decode cX5_due 63 = .ok (.lload_n 2, 1) := by decide +kernel
theorem dX5_due_64 : decode cX5_due 64 = .ok (.lreturn, 1) := by decide +kernel
theorem dX5_enough_0 : decode cX5_enough 0 = .ok (.aload_n 0, 1) := by decide +kernel
theorem dX5_enough_1 : decode cX5_enough 1 = .ok (.invokevirtual 125, 3) := by decide +kernel
theorem dX5_enough_4 : decode cX5_enough 4 = .ok (.ifCond .ne 6, 3) := by decide +kernel
theorem dX5_enough_7 : decode cX5_enough 7 = .ok (.bipush (-3), 2) := by decide +kernel
theorem dX5_enough_9 : decode cX5_enough 9 = .ok (.ireturn, 1) := by decide +kernel
theorem dX5_enough_10 : decode cX5_enough 10 = .ok (.iconst 1, 1) := by decide +kernel
theorem dX5_enough_11 : decode cX5_enough 11 = .ok (.istore_n 1, 1) := by decide +kernel
theorem dX5_enough_12 : decode cX5_enough 12 = .ok (.iconst 1, 1) := by decide +kernel
theorem dX5_enough_13 : decode cX5_enough 13 = .ok (.iload_n 1, 1) := by decide +kernel
theorem dX5_enough_14 : decode cX5_enough 14 = .ok (.ishl, 1) := by decide +kernel
theorem dX5_enough_15 : decode cX5_enough 15 = .ok (.iconst 1, 1) := by decide +kernel
theorem dX5_enough_16 : decode cX5_enough 16 = .ok (.isub, 1) := by decide +kernel
theorem dX5_enough_17 : decode cX5_enough 17 = .ok (.aload_n 0, 1) := by decide +kernel
theorem dX5_enough_18 : decode cX5_enough 18 = .ok (.getfield 82, 3) := by decide +kernel
theorem dX5_enough_21 : decode cX5_enough 21 = .ok (.aload_n 0, 1) := by decide +kernel
theorem dX5_enough_22 : decode cX5_enough 22 = .ok (.getfield 16, 3) := by decide +kernel
theorem dX5_enough_25 : decode cX5_enough 25 = .ok (.imul, 1) := by decide +kernel
theorem dX5_enough_26 : decode cX5_enough 26 = .ok (.if_icmp .ge 9, 3) := by decide +kernel
theorem dX5_enough_29 : decode cX5_enough 29 = .ok (.iinc 1 1, 3) := by decide +kernel
theorem dX5_enough_32 : decode cX5_enough 32 = .ok (.goto (-20), 3) := by decide +kernel
theorem dX5_enough_35 : decode cX5_enough 35 = .ok (.iload_n 1, 1) := by decide +kernel
theorem dX5_enough_36 : decode cX5_enough 36 = .ok (.ireturn, 1) := by decide +kernel
theorem dX5_findCosts_0 : decode cX5_findCosts 0 = .ok (.iconst 0, 1) := by decide +kernel
theorem dX5_findCosts_1 : decode cX5_findCosts 1 = .ok (.istore_n 1, 1) := by decide +kernel
theorem dX5_findCosts_2 : decode cX5_findCosts 2 = .ok (.iload_n 1, 1) := by decide +kernel
theorem dX5_findCosts_3 : decode cX5_findCosts 3 = .ok (.aload_n 0, 1) := by decide +kernel
theorem dX5_findCosts_4 : decode cX5_findCosts 4 = .ok (.getfield 82, 3) := by decide +kernel
theorem dX5_findCosts_7 : decode cX5_findCosts 7 = .ok (.if_icmp .ge 116, 3) := by decide +kernel
theorem dX5_findCosts_10 : decode cX5_findCosts 10 = .ok (.iconst 0, 1) := by decide +kernel
theorem dX5_findCosts_11 : decode cX5_findCosts 11 = .ok (.istore_n 2, 1) := by decide +kernel
theorem dX5_findCosts_12 : decode cX5_findCosts 12 = .ok (.iload_n 2, 1) := by decide +kernel
theorem dX5_findCosts_13 : decode cX5_findCosts 13 = .ok (.aload_n 0, 1) := by decide +kernel
theorem dX5_findCosts_14 : decode cX5_findCosts 14 = .ok (.getfield 7, 3) := by decide +kernel
theorem dX5_findCosts_17 : decode cX5_findCosts 17 = .ok (.if_icmp .ge 100, 3) := by decide +kernel
theorem dX5_findCosts_20 : decode cX5_findCosts 20 = .ok (.iconst 0, 1) := by decide +kernel
theorem dX5_findCosts_21 : decode cX5_findCosts 21 = .ok (.istore_n 3, 1) := by decide +kernel
theorem dX5_findCosts_22 : decode cX5_findCosts 22 = .ok (.iconst 0, 1) := by decide +kernel
theorem dX5_findCosts_23 : decode cX5_findCosts 23 = .ok (.istore 4, 2) := by decide +kernel
theorem dX5_findCosts_25 : decode cX5_findCosts 25 = .ok (.iload 4, 2) := by decide +kernel
theorem dX5_findCosts_27 : decode cX5_findCosts 27 = .ok (.iconst 2, 1) := by decide +kernel
theorem dX5_findCosts_28 : decode cX5_findCosts 28 = .ok (.aload_n 0, 1) := by decide +kernel
theorem dX5_findCosts_29 : decode cX5_findCosts 29 = .ok (.getfield 88, 3) := by decide +kernel
theorem dX5_findCosts_32 : decode cX5_findCosts 32 = .ok (.imul, 1) := by decide +kernel
theorem dX5_findCosts_33 : decode cX5_findCosts 33 = .ok (.aload_n 0, 1) := by decide +kernel
theorem dX5_findCosts_34 : decode cX5_findCosts 34 = .ok (.getfield 85, 3) := by decide +kernel
theorem dX5_findCosts_37 : decode cX5_findCosts 37 = .ok (.imul, 1) := by decide +kernel
theorem dX5_findCosts_38 : decode cX5_findCosts 38 = .ok (.if_icmp .ge 61, 3) := by decide +kernel
theorem dX5_findCosts_41 : decode cX5_findCosts 41 = .ok (.aload_n 0, 1) := by decide +kernel
theorem dX5_findCosts_42 : decode cX5_findCosts 42 = .ok (.getfield 23, 3) := by decide +kernel
theorem dX5_findCosts_45 : decode cX5_findCosts 45 = .ok (.bipush 24, 2) := by decide +kernel
theorem dX5_findCosts_47 : decode cX5_findCosts 47 = .ok (.iload_n 2, 1) := by decide +kernel
theorem dX5_findCosts_48 : decode cX5_findCosts 48 = .ok (.imul, 1) := by decide +kernel
theorem dX5_findCosts_49 : decode cX5_findCosts 49 = .ok (.iload 4, 2) := by decide +kernel
theorem dX5_findCosts_51 : decode cX5_findCosts 51 = .ok (.iadd, 1) := by decide +kernel
theorem dX5_findCosts_52 : decode cX5_findCosts 52 = .ok (.iaload, 1) := by decide +kernel
theorem dX5_findCosts_53 : decode cX5_findCosts 53 = .ok (.istore 5, 2) := by decide +kernel
theorem dX5_findCosts_55 : decode cX5_findCosts 55 = .ok (.iload 5, 2) := by decide +kernel
theorem dX5_findCosts_57 : decode cX5_findCosts 57 = .ok (.iconst (-1), 1) := by decide +kernel
theorem dX5_findCosts_58 : decode cX5_findCosts 58 = .ok (.if_icmp .ne 7, 3) := by decide +kernel
theorem dX5_findCosts_61 : decode cX5_findCosts 61 = .ok (.iconst 0, 1) := by decide +kernel
theorem dX5_findCosts_62 : decode cX5_findCosts 62 = .ok (.goto 13, 3) := by decide +kernel
theorem dX5_findCosts_65 : decode cX5_findCosts 65 = .ok (.iload 5, 2) := by decide +kernel
theorem dX5_findCosts_67 : decode cX5_findCosts 67 = .ok (.aload_n 0, 1) := by decide +kernel
theorem dX5_findCosts_68 : decode cX5_findCosts 68 = .ok (.iload_n 1, 1) := by decide +kernel
theorem dX5_findCosts_69 : decode cX5_findCosts 69 = .ok (.iload 4, 2) := by decide +kernel
theorem dX5_findCosts_71 : decode cX5_findCosts 71 = .ok (.invokevirtual 129, 3) := by decide +kernel
theorem dX5_findCosts_74 : decode cX5_findCosts 74 = .ok (.isub, 1) := by decide +kernel
theorem dX5_findCosts_75 : decode cX5_findCosts 75 = .ok (.istore 6, 2) := by decide +kernel
theorem dX5_findCosts_77 : decode cX5_findCosts 77 = .ok (.iload_n 3, 1) := by decide +kernel
theorem dX5_findCosts_78 : decode cX5_findCosts 78 = .ok (.iload 6, 2) := by decide +kernel
theorem dX5_findCosts_80 : decode cX5_findCosts 80 = .ok (.ifCond .ge 9, 3) := by decide +kernel
theorem dX5_findCosts_83 : decode cX5_findCosts 83 = .ok (.iload 6, 2) := by decide +kernel
theorem dX5_findCosts_85 : decode cX5_findCosts 85 = .ok (.ineg, 1) := by decide +kernel
theorem dX5_findCosts_86 : decode cX5_findCosts 86 = .ok (.goto 5, 3) := by decide +kernel
theorem dX5_findCosts_89 : decode cX5_findCosts 89 = .ok (.iload 6, 2) := by decide +kernel
theorem dX5_findCosts_91 : decode cX5_findCosts 91 = .ok (.iadd, 1) := by decide +kernel
theorem dX5_findCosts_92 : decode cX5_findCosts 92 = .ok (.istore_n 3, 1) := by decide +kernel
theorem dX5_findCosts_93 : decode cX5_findCosts 93 = .ok (.iinc 4 1, 3) := by decide +kernel
theorem dX5_findCosts_96 : decode cX5_findCosts 96 = .ok (.goto (-71), 3) := by decide +kernel
theorem dX5_findCosts_99 : decode cX5_findCosts 99 = .ok (.aload_n 0, 1) := by decide +kernel
theorem dX5_findCosts_100 : decode cX5_findCosts 100 = .ok (.getfield 47, 3) := by decide +kernel
theorem dX5_findCosts_103 : decode cX5_findCosts 103 = .ok (.bipush 8, 2) := by decide +kernel
theorem dX5_findCosts_105 : decode cX5_findCosts 105 = .ok (.iload_n 1, 1) := by decide +kernel
theorem dX5_findCosts_106 : decode cX5_findCosts 106 = .ok (.imul, 1) := by decide +kernel
theorem dX5_findCosts_107 : decode cX5_findCosts 107 = .ok (.iload_n 2, 1) := by decide +kernel
theorem dX5_findCosts_108 : decode cX5_findCosts 108 = .ok (.iadd, 1) := by decide +kernel
theorem dX5_findCosts_109 : decode cX5_findCosts 109 = .ok (.iload_n 3, 1) := by decide +kernel
theorem dX5_findCosts_110 : decode cX5_findCosts 110 = .ok (.iastore, 1) := by decide +kernel
theorem dX5_findCosts_111 : decode cX5_findCosts 111 = .ok (.iinc 2 1, 3) := by decide +kernel
theorem dX5_findCosts_114 : decode cX5_findCosts 114 = .ok (.goto (-102), 3) := by decide +kernel
theorem dX5_findCosts_117 : decode cX5_findCosts 117 = .ok (.iinc 1 1, 3) := by decide +kernel
theorem dX5_findCosts_120 : decode cX5_findCosts 120 = .ok (.goto (-118), 3) := by decide +kernel
theorem dX5_findCosts_123 : decode cX5_findCosts 123 = .ok (.return_, 1) := by decide +kernel
theorem dX5_isUsed_0 : decode cX5_isUsed 0 = .ok (.iconst 0, 1) := by decide +kernel
theorem dX5_isUsed_1 : decode cX5_isUsed 1 = .ok (.istore_n 3, 1) := by decide +kernel
theorem dX5_isUsed_2 : decode cX5_isUsed 2 = .ok (.iload_n 3, 1) := by decide +kernel
theorem dX5_isUsed_3 : decode cX5_isUsed 3 = .ok (.iload_n 2, 1) := by decide +kernel
theorem dX5_isUsed_4 : decode cX5_isUsed 4 = .ok (.if_icmp .ge 21, 3) := by decide +kernel
theorem dX5_isUsed_7 : decode cX5_isUsed 7 = .ok (.aload_n 0, 1) := by decide +kernel
theorem dX5_isUsed_8 : decode cX5_isUsed 8 = .ok (.getfield 50, 3) := by decide +kernel
theorem dX5_isUsed_11 : decode cX5_isUsed 11 = .ok (.iload_n 3, 1) := by decide +kernel
theorem dX5_isUsed_12 : decode cX5_isUsed 12 = .ok (.iaload, 1) := by decide +kernel
theorem dX5_isUsed_13 : decode cX5_isUsed 13 = .ok (.iload_n 1, 1) := by decide +kernel
theorem dX5_isUsed_14 : decode cX5_isUsed 14 = .ok (.if_icmp .ne 5, 3) := by decide +kernel
theorem dX5_isUsed_17 : decode cX5_isUsed 17 = .ok (.iconst 1, 1) := by decide +kernel
theorem dX5_isUsed_18 : decode cX5_isUsed 18 = .ok (.ireturn, 1) := by decide +kernel
theorem dX5_isUsed_19 : decode cX5_isUsed 19 = .ok (.iinc 3 1, 3) := by decide +kernel
theorem dX5_isUsed_22 : decode cX5_isUsed 22 = .ok (.goto (-20), 3) := by decide +kernel
theorem dX5_isUsed_25 : decode cX5_isUsed 25 = .ok (.iconst 0, 1) := by decide +kernel
theorem dX5_isUsed_26 : decode cX5_isUsed 26 = .ok (.ireturn, 1) := by decide +kernel
theorem dX5_map_0 : decode cX5_map 0 = .ok (.aload_n 0, 1) := by decide +kernel
theorem dX5_map_1 : decode cX5_map 1 = .ok (.invokevirtual 125, 3) := by decide +kernel
theorem dX5_map_4 : decode cX5_map 4 = .ok (.ifCond .ne 6, 3) := by decide +kernel
theorem dX5_map_7 : decode cX5_map 7 = .ok (.bipush (-3), 2) := by decide +kernel
theorem dX5_map_9 : decode cX5_map 9 = .ok (.ireturn, 1) := by decide +kernel
theorem dX5_map_10 : decode cX5_map 10 = .ok (.aload_n 0, 1) := by decide +kernel
theorem dX5_map_11 : decode cX5_map 11 = .ok (.invokevirtual 138, 3) := by decide +kernel
theorem dX5_map_14 : decode cX5_map 14 = .ok (.iconst (-1), 1) := by decide +kernel
theorem dX5_map_15 : decode cX5_map 15 = .ok (.istore_n 1, 1) := by decide +kernel
theorem dX5_map_16 : decode cX5_map 16 = .ok (.iconst 0, 1) := by decide +kernel
theorem dX5_map_17 : decode cX5_map 17 = .ok (.istore_n 2, 1) := by decide +kernel
theorem dX5_map_18 : decode cX5_map 18 = .ok (.aload_n 0, 1) := by decide +kernel
theorem dX5_map_19 : decode cX5_map 19 = .ok (.getfield 50, 3) := by decide +kernel
theorem dX5_map_22 : decode cX5_map 22 = .ok (.iconst 0, 1) := by decide +kernel
theorem dX5_map_23 : decode cX5_map 23 = .ok (.iconst (-1), 1) := by decide +kernel
theorem dX5_map_24 : decode cX5_map 24 = .ok (.iastore, 1) := by decide +kernel
theorem dX5_map_25 : decode cX5_map 25 = .ok (.iload_n 2, 1) := by decide +kernel
theorem dX5_map_26 : decode cX5_map 26 = .ok (.ifCond .lt 183, 3) := by decide +kernel
theorem dX5_map_29 : decode cX5_map 29 = .ok (.aload_n 0, 1) := by decide +kernel
theorem dX5_map_30 : decode cX5_map 30 = .ok (.getfield 50, 3) := by decide +kernel
theorem dX5_map_33 : decode cX5_map 33 = .ok (.iload_n 2, 1) := by decide +kernel
theorem dX5_map_34 : decode cX5_map 34 = .ok (.dup2, 1) := by decide +kernel
theorem dX5_map_35 : decode cX5_map 35 = .ok (.iaload, 1) := by decide +kernel
theorem dX5_map_36 : decode cX5_map 36 = .ok (.iconst 1, 1) := by decide +kernel
theorem dX5_map_37 : decode cX5_map 37 = .ok (.iadd, 1) := by decide +kernel
theorem dX5_map_38 : decode cX5_map 38 = .ok (.iastore, 1) := by decide +kernel
theorem dX5_map_39 : decode cX5_map 39 = .ok (.aload_n 0, 1) := by decide +kernel
theorem dX5_map_40 : decode cX5_map 40 = .ok (.getfield 50, 3) := by decide +kernel
theorem dX5_map_43 : decode cX5_map 43 = .ok (.iload_n 2, 1) := by decide +kernel
theorem dX5_map_44 : decode cX5_map 44 = .ok (.iaload, 1) := by decide +kernel
theorem dX5_map_45 : decode cX5_map 45 = .ok (.aload_n 0, 1) := by decide +kernel
theorem dX5_map_46 : decode cX5_map 46 = .ok (.getfield 7, 3) := by decide +kernel
theorem dX5_map_49 : decode cX5_map 49 = .ok (.if_icmp .ge 30, 3) := by decide +kernel
theorem dX5_map_52 : decode cX5_map 52 = .ok (.aload_n 0, 1) := by decide +kernel
theorem dX5_map_53 : decode cX5_map 53 = .ok (.aload_n 0, 1) := by decide +kernel
theorem dX5_map_54 : decode cX5_map 54 = .ok (.getfield 50, 3) := by decide +kernel
theorem dX5_map_57 : decode cX5_map 57 = .ok (.iload_n 2, 1) := by decide +kernel
theorem dX5_map_58 : decode cX5_map 58 = .ok (.iaload, 1) := by decide +kernel
theorem dX5_map_59 : decode cX5_map 59 = .ok (.iload_n 2, 1) := by decide +kernel
theorem dX5_map_60 : decode cX5_map 60 = .ok (.invokevirtual 141, 3) := by decide +kernel
theorem dX5_map_63 : decode cX5_map 63 = .ok (.ifCond .eq 16, 3) := by decide +kernel
theorem dX5_map_66 : decode cX5_map 66 = .ok (.aload_n 0, 1) := by decide +kernel
theorem dX5_map_67 : decode cX5_map 67 = .ok (.getfield 50, 3) := by decide +kernel
theorem dX5_map_70 : decode cX5_map 70 = .ok (.iload_n 2, 1) := by decide +kernel
theorem dX5_map_71 : decode cX5_map 71 = .ok (.dup2, 1) := by decide +kernel
theorem dX5_map_72 : decode cX5_map 72 = .ok (.iaload, 1) := by decide +kernel
theorem dX5_map_73 : decode cX5_map 73 = .ok (.iconst 1, 1) := by decide +kernel
theorem dX5_map_74 : decode cX5_map 74 = .ok (.iadd, 1) := by decide +kernel
theorem dX5_map_75 : decode cX5_map 75 = .ok (.iastore, 1) := by decide +kernel
theorem dX5_map_76 : decode cX5_map 76 = .ok (.goto (-37), 3) := by decide +kernel
theorem dX5_map_79 : decode cX5_map 79 = .ok (.aload_n 0, 1) := by decide +kernel
theorem dX5_map_80 : decode cX5_map 80 = .ok (.getfield 50, 3) := by decide +kernel
theorem dX5_map_83 : decode cX5_map 83 = .ok (.iload_n 2, 1) := by decide +kernel
theorem dX5_map_84 : decode cX5_map 84 = .ok (.iaload, 1) := by decide +kernel
theorem dX5_map_85 : decode cX5_map 85 = .ok (.aload_n 0, 1) := by decide +kernel
theorem dX5_map_86 : decode cX5_map 86 = .ok (.getfield 7, 3) := by decide +kernel
theorem dX5_map_89 : decode cX5_map 89 = .ok (.if_icmp .lt 9, 3) := by decide +kernel
theorem dX5_map_92 : decode cX5_map 92 = .ok (.iinc 2 (-1), 3) := by decide +kernel
theorem dX5_map_95 : decode cX5_map 95 = .ok (.goto (-70), 3) := by decide +kernel
theorem dX5_map_98 : decode cX5_map 98 = .ok (.aload_n 0, 1) := by decide +kernel
theorem dX5_map_99 : decode cX5_map 99 = .ok (.getfield 56, 3) := by decide +kernel
theorem dX5_map_102 : decode cX5_map 102 = .ok (.iload_n 2, 1) := by decide +kernel
theorem dX5_map_103 : decode cX5_map 103 = .ok (.iconst 1, 1) := by decide +kernel
theorem dX5_map_104 : decode cX5_map 104 = .ok (.iadd, 1) := by decide +kernel
theorem dX5_map_105 : decode cX5_map 105 = .ok (.aload_n 0, 1) := by decide +kernel
theorem dX5_map_106 : decode cX5_map 106 = .ok (.getfield 56, 3) := by decide +kernel
theorem dX5_map_109 : decode cX5_map 109 = .ok (.iload_n 2, 1) := by decide +kernel
theorem dX5_map_110 : decode cX5_map 110 = .ok (.iaload, 1) := by decide +kernel
theorem dX5_map_111 : decode cX5_map 111 = .ok (.aload_n 0, 1) := by decide +kernel
theorem dX5_map_112 : decode cX5_map 112 = .ok (.getfield 47, 3) := by decide +kernel
theorem dX5_map_115 : decode cX5_map 115 = .ok (.bipush 8, 2) := by decide +kernel
theorem dX5_map_117 : decode cX5_map 117 = .ok (.iload_n 2, 1) := by decide +kernel
theorem dX5_map_118 : decode cX5_map 118 = .ok (.imul, 1) := by decide +kernel
theorem dX5_map_119 : decode cX5_map 119 = .ok (.aload_n 0, 1) := by decide +kernel
theorem dX5_map_120 : decode cX5_map 120 = .ok (.getfield 50, 3) := by decide +kernel
theorem dX5_map_123 : decode cX5_map 123 = .ok (.iload_n 2, 1) := by decide +kernel
theorem dX5_map_124 : decode cX5_map 124 = .ok (.iaload, 1) := by decide +kernel
theorem dX5_map_125 : decode cX5_map 125 = .ok (.iadd, 1) := by decide +kernel
theorem dX5_map_126 : decode cX5_map 126 = .ok (.iaload, 1) := by decide +kernel
theorem dX5_map_127 : decode cX5_map 127 = .ok (.iadd, 1) := by decide +kernel
theorem dX5_map_128 : decode cX5_map 128 = .ok (.iastore, 1) := by decide +kernel
theorem dX5_map_129 : decode cX5_map 129 = .ok (.iload_n 1, 1) := by decide +kernel
theorem dX5_map_130 : decode cX5_map 130 = .ok (.iconst (-1), 1) := by decide +kernel
theorem dX5_map_131 : decode cX5_map 131 = .ok (.if_icmp .eq 15, 3) := by decide +kernel
theorem dX5_map_134 : decode cX5_map 134 = .ok (.aload_n 0, 1) := by decide +kernel
theorem dX5_map_135 : decode cX5_map 135 = .ok (.getfield 56, 3) := by decide +kernel
theorem dX5_map_138 : decode cX5_map 138 = .ok (.iload_n 2, 1) := by decide +kernel
theorem dX5_map_139 : decode cX5_map 139 = .ok (.iconst 1, 1) := by decide +kernel
theorem dX5_map_140 : decode cX5_map 140 = .ok (.iadd, 1) := by decide +kernel
theorem dX5_map_141 : decode cX5_map 141 = .ok (.iaload, 1) := by decide +kernel
theorem dX5_map_142 : decode cX5_map 142 = .ok (.iload_n 1, 1) := by decide +kernel
theorem dX5_map_143 : decode cX5_map 143 = .ok (.if_icmp .ge (-118), 3) := by decide +kernel
theorem dX5_map_146 : decode cX5_map 146 = .ok (.iload_n 2, 1) := by decide +kernel
theorem dX5_map_147 : decode cX5_map 147 = .ok (.aload_n 0, 1) := by decide +kernel
theorem dX5_map_148 : decode cX5_map 148 = .ok (.getfield 82, 3) := by decide +kernel
theorem dX5_map_151 : decode cX5_map 151 = .ok (.iconst 1, 1) := by decide +kernel
theorem dX5_map_152 : decode cX5_map 152 = .ok (.isub, 1) := by decide +kernel
theorem dX5_map_153 : decode cX5_map 153 = .ok (.if_icmp .ne 43, 3) := by decide +kernel
theorem dX5_map_156 : decode cX5_map 156 = .ok (.aload_n 0, 1) := by decide +kernel
theorem dX5_map_157 : decode cX5_map 157 = .ok (.getfield 56, 3) := by decide +kernel
theorem dX5_map_160 : decode cX5_map 160 = .ok (.iload_n 2, 1) := by decide +kernel
theorem dX5_map_161 : decode cX5_map 161 = .ok (.iconst 1, 1) := by decide +kernel
theorem dX5_map_162 : decode cX5_map 162 = .ok (.iadd, 1) := by decide +kernel
theorem dX5_map_163 : decode cX5_map 163 = .ok (.iaload, 1) := by decide +kernel
theorem dX5_map_164 : decode cX5_map 164 = .ok (.istore_n 1, 1) := by decide +kernel
theorem dX5_map_165 : decode cX5_map 165 = .ok (.iconst 0, 1) := by decide +kernel
theorem dX5_map_166 : decode cX5_map 166 = .ok (.istore_n 3, 1) := by decide +kernel
theorem dX5_map_167 : decode cX5_map 167 = .ok (.iload_n 3, 1) := by decide +kernel
theorem dX5_map_168 : decode cX5_map 168 = .ok (.aload_n 0, 1) := by decide +kernel
theorem dX5_map_169 : decode cX5_map 169 = .ok (.getfield 82, 3) := by decide +kernel
theorem dX5_map_172 : decode cX5_map 172 = .ok (.if_icmp .ge 21, 3) := by decide +kernel
theorem dX5_map_175 : decode cX5_map 175 = .ok (.aload_n 0, 1) := by decide +kernel
theorem dX5_map_176 : decode cX5_map 176 = .ok (.getfield 53, 3) := by decide +kernel
theorem dX5_map_179 : decode cX5_map 179 = .ok (.iload_n 3, 1) := by decide +kernel
theorem dX5_map_180 : decode cX5_map 180 = .ok (.aload_n 0, 1) := by decide +kernel
theorem dX5_map_181 : decode cX5_map 181 = .ok (.getfield 50, 3) := by decide +kernel
theorem dX5_map_184 : decode cX5_map 184 = .ok (.iload_n 3, 1) := by decide +kernel
theorem dX5_map_185 : decode cX5_map 185 = .ok (.iaload, 1) := by decide +kernel
theorem dX5_map_186 : decode cX5_map 186 = .ok (.iastore, 1) := by decide +kernel
theorem dX5_map_187 : decode cX5_map 187 = .ok (.iinc 3 1, 3) := by decide +kernel
theorem dX5_map_190 : decode cX5_map 190 = .ok (.goto (-23), 3) := by decide +kernel
theorem dX5_map_193 : decode cX5_map 193 = .ok (.goto (-168), 3) := by decide +kernel
theorem dX5_map_196 : decode cX5_map 196 = .ok (.iinc 2 1, 3) := by decide +kernel
theorem dX5_map_199 : decode cX5_map 199 = .ok (.aload_n 0, 1) := by decide +kernel
theorem dX5_map_200 : decode cX5_map 200 = .ok (.getfield 50, 3) := by decide +kernel
theorem dX5_map_203 : decode cX5_map 203 = .ok (.iload_n 2, 1) := by decide +kernel
theorem dX5_map_204 : decode cX5_map 204 = .ok (.iconst (-1), 1) := by decide +kernel
theorem dX5_map_205 : decode cX5_map 205 = .ok (.iastore, 1) := by decide +kernel
theorem dX5_map_206 : decode cX5_map 206 = .ok (.goto (-181), 3) := by decide +kernel
theorem dX5_map_209 : decode cX5_map 209 = .ok (.iconst 0, 1) := by decide +kernel
theorem dX5_map_210 : decode cX5_map 210 = .ok (.istore_n 3, 1) := by decide +kernel
theorem dX5_map_211 : decode cX5_map 211 = .ok (.iload_n 3, 1) := by decide +kernel
theorem dX5_map_212 : decode cX5_map 212 = .ok (.aload_n 0, 1) := by decide +kernel
theorem dX5_map_213 : decode cX5_map 213 = .ok (.getfield 82, 3) := by decide +kernel
theorem dX5_map_216 : decode cX5_map 216 = .ok (.if_icmp .ge 21, 3) := by decide +kernel
theorem dX5_map_219 : decode cX5_map 219 = .ok (.aload_n 0, 1) := by decide +kernel
theorem dX5_map_220 : decode cX5_map 220 = .ok (.getfield 38, 3) := by decide +kernel
theorem dX5_map_223 : decode cX5_map 223 = .ok (.iload_n 3, 1) := by decide +kernel
theorem dX5_map_224 : decode cX5_map 224 = .ok (.aload_n 0, 1) := by decide +kernel
theorem dX5_map_225 : decode cX5_map 225 = .ok (.getfield 53, 3) := by decide +kernel
theorem dX5_map_228 : decode cX5_map 228 = .ok (.iload_n 3, 1) := by decide +kernel
theorem dX5_map_229 : decode cX5_map 229 = .ok (.iaload, 1) := by decide +kernel
theorem dX5_map_230 : decode cX5_map 230 = .ok (.iastore, 1) := by decide +kernel
theorem dX5_map_231 : decode cX5_map 231 = .ok (.iinc 3 1, 3) := by decide +kernel
theorem dX5_map_234 : decode cX5_map 234 = .ok (.goto (-23), 3) := by decide +kernel
theorem dX5_map_237 : decode cX5_map 237 = .ok (.iload_n 1, 1) := by decide +kernel
theorem dX5_map_238 : decode cX5_map 238 = .ok (.ireturn, 1) := by decide +kernel
theorem dX5_mapped_0 : decode cX5_mapped 0 = .ok (.aload_n 0, 1) := by decide +kernel
theorem dX5_mapped_1 : decode cX5_mapped 1 = .ok (.invokevirtual 125, 3) := by decide +kernel
theorem dX5_mapped_4 : decode cX5_mapped 4 = .ok (.ifCond .ne 17, 3) := by decide +kernel
theorem dX5_mapped_7 : decode cX5_mapped 7 = .ok (.iload_n 1, 1) := by decide +kernel
theorem dX5_mapped_8 : decode cX5_mapped 8 = .ok (.ifCond .ge 8, 3) := by decide +kernel
theorem dX5_mapped_11 : decode cX5_mapped 11 = .ok (.bipush (-2), 2) := by decide +kernel
theorem dX5_mapped_13 : decode cX5_mapped 13 = .ok (.goto 33, 3) := by decide +kernel
theorem dX5_mapped_16 : decode cX5_mapped 16 = .ok (.bipush (-3), 2) := by decide +kernel
theorem dX5_mapped_18 : decode cX5_mapped 18 = .ok (.goto 28, 3) := by decide +kernel
theorem dX5_mapped_21 : decode cX5_mapped 21 = .ok (.iload_n 1, 1) := by decide +kernel
theorem dX5_mapped_22 : decode cX5_mapped 22 = .ok (.iconst 0, 1) := by decide +kernel
theorem dX5_mapped_23 : decode cX5_mapped 23 = .ok (.aload_n 0, 1) := by decide +kernel
theorem dX5_mapped_24 : decode cX5_mapped 24 = .ok (.getfield 82, 3) := by decide +kernel
theorem dX5_mapped_27 : decode cX5_mapped 27 = .ok (.iconst 1, 1) := by decide +kernel
theorem dX5_mapped_28 : decode cX5_mapped 28 = .ok (.isub, 1) := by decide +kernel
theorem dX5_mapped_29 : decode cX5_mapped 29 = .ok (.invokestatic 98, 3) := by decide +kernel
theorem dX5_mapped_32 : decode cX5_mapped 32 = .ok (.ifCond .eq 12, 3) := by decide +kernel
theorem dX5_mapped_35 : decode cX5_mapped 35 = .ok (.aload_n 0, 1) := by decide +kernel
theorem dX5_mapped_36 : decode cX5_mapped 36 = .ok (.getfield 38, 3) := by decide +kernel
theorem dX5_mapped_39 : decode cX5_mapped 39 = .ok (.iload_n 1, 1) := by decide +kernel
theorem dX5_mapped_40 : decode cX5_mapped 40 = .ok (.iaload, 1) := by decide +kernel
theorem dX5_mapped_41 : decode cX5_mapped 41 = .ok (.goto 5, 3) := by decide +kernel
theorem dX5_mapped_44 : decode cX5_mapped 44 = .ok (.bipush (-2), 2) := by decide +kernel
theorem dX5_mapped_46 : decode cX5_mapped 46 = .ok (.ireturn, 1) := by decide +kernel
theorem dX5_seal_0 : decode cX5_seal 0 = .ok (.iconst 0, 1) := by decide +kernel
theorem dX5_seal_1 : decode cX5_seal 1 = .ok (.istore_n 1, 1) := by decide +kernel
theorem dX5_seal_2 : decode cX5_seal 2 = .ok (.iload_n 1, 1) := by decide +kernel
theorem dX5_seal_3 : decode cX5_seal 3 = .ok (.aload_n 0, 1) := by decide +kernel
theorem dX5_seal_4 : decode cX5_seal 4 = .ok (.getfield 7, 3) := by decide +kernel
theorem dX5_seal_7 : decode cX5_seal 7 = .ok (.if_icmp .ge 86, 3) := by decide +kernel
theorem dX5_seal_10 : decode cX5_seal 10 = .ok (.iconst 0, 1) := by decide +kernel
theorem dX5_seal_11 : decode cX5_seal 11 = .ok (.istore_n 2, 1) := by decide +kernel
theorem dX5_seal_12 : decode cX5_seal 12 = .ok (.iconst 0, 1) := by decide +kernel
theorem dX5_seal_13 : decode cX5_seal 13 = .ok (.istore_n 3, 1) := by decide +kernel
theorem dX5_seal_14 : decode cX5_seal 14 = .ok (.iconst 0, 1) := by decide +kernel
theorem dX5_seal_15 : decode cX5_seal 15 = .ok (.istore 4, 2) := by decide +kernel
theorem dX5_seal_17 : decode cX5_seal 17 = .ok (.iload 4, 2) := by decide +kernel
theorem dX5_seal_19 : decode cX5_seal 19 = .ok (.aload_n 0, 1) := by decide +kernel
theorem dX5_seal_20 : decode cX5_seal 20 = .ok (.getfield 13, 3) := by decide +kernel
theorem dX5_seal_23 : decode cX5_seal 23 = .ok (.if_icmp .ge 44, 3) := by decide +kernel
theorem dX5_seal_26 : decode cX5_seal 26 = .ok (.iload_n 2, 1) := by decide +kernel
theorem dX5_seal_27 : decode cX5_seal 27 = .ok (.aload_n 0, 1) := by decide +kernel
theorem dX5_seal_28 : decode cX5_seal 28 = .ok (.getfield 19, 3) := by decide +kernel
theorem dX5_seal_31 : decode cX5_seal 31 = .ok (.bipush 24, 2) := by decide +kernel
theorem dX5_seal_33 : decode cX5_seal 33 = .ok (.iload_n 1, 1) := by decide +kernel
theorem dX5_seal_34 : decode cX5_seal 34 = .ok (.imul, 1) := by decide +kernel
theorem dX5_seal_35 : decode cX5_seal 35 = .ok (.iload 4, 2) := by decide +kernel
theorem dX5_seal_37 : decode cX5_seal 37 = .ok (.iadd, 1) := by decide +kernel
theorem dX5_seal_38 : decode cX5_seal 38 = .ok (.iaload, 1) := by decide +kernel
theorem dX5_seal_39 : decode cX5_seal 39 = .ok (.iadd, 1) := by decide +kernel
theorem dX5_seal_40 : decode cX5_seal 40 = .ok (.istore_n 2, 1) := by decide +kernel
theorem dX5_seal_41 : decode cX5_seal 41 = .ok (.iload_n 3, 1) := by decide +kernel
theorem dX5_seal_42 : decode cX5_seal 42 = .ok (.iload 4, 2) := by decide +kernel
theorem dX5_seal_44 : decode cX5_seal 44 = .ok (.iconst 1, 1) := by decide +kernel
theorem dX5_seal_45 : decode cX5_seal 45 = .ok (.iadd, 1) := by decide +kernel
theorem dX5_seal_46 : decode cX5_seal 46 = .ok (.aload_n 0, 1) := by decide +kernel
theorem dX5_seal_47 : decode cX5_seal 47 = .ok (.getfield 19, 3) := by decide +kernel
theorem dX5_seal_50 : decode cX5_seal 50 = .ok (.bipush 24, 2) := by decide +kernel
theorem dX5_seal_52 : decode cX5_seal 52 = .ok (.iload_n 1, 1) := by decide +kernel
theorem dX5_seal_53 : decode cX5_seal 53 = .ok (.imul, 1) := by decide +kernel
theorem dX5_seal_54 : decode cX5_seal 54 = .ok (.iload 4, 2) := by decide +kernel
theorem dX5_seal_56 : decode cX5_seal 56 = .ok (.iadd, 1) := by decide +kernel
theorem dX5_seal_57 : decode cX5_seal 57 = .ok (.iaload, 1) := by decide +kernel
theorem dX5_seal_58 : decode cX5_seal 58 = .ok (.imul, 1) := by decide +kernel
theorem dX5_seal_59 : decode cX5_seal 59 = .ok (.iadd, 1) := by decide +kernel
theorem dX5_seal_60 : decode cX5_seal 60 = .ok (.istore_n 3, 1) := by decide +kernel
theorem dX5_seal_61 : decode cX5_seal 61 = .ok (.iinc 4 1, 3) := by decide +kernel
theorem dX5_seal_64 : decode cX5_seal 64 = .ok (.goto (-47), 3) := by decide +kernel
theorem dX5_seal_67 : decode cX5_seal 67 = .ok (.aload_n 0, 1) := by decide +kernel
theorem dX5_seal_68 : decode cX5_seal 68 = .ok (.getfield 41, 3) := by decide +kernel
theorem dX5_seal_71 : decode cX5_seal 71 = .ok (.iload_n 1, 1) := by decide +kernel
theorem dX5_seal_72 : decode cX5_seal 72 = .ok (.iload_n 2, 1) := by decide +kernel
theorem dX5_seal_73 : decode cX5_seal 73 = .ok (.bipush 97, 2) := by decide +kernel
theorem dX5_seal_75 : decode cX5_seal 75 = .ok (.irem, 1) := by decide +kernel
theorem dX5_seal_76 : decode cX5_seal 76 = .ok (.iastore, 1) := by decide +kernel
theorem dX5_seal_77 : decode cX5_seal 77 = .ok (.aload_n 0, 1) := by decide +kernel
theorem dX5_seal_78 : decode cX5_seal 78 = .ok (.getfield 44, 3) := by decide +kernel
theorem dX5_seal_81 : decode cX5_seal 81 = .ok (.iload_n 1, 1) := by decide +kernel
theorem dX5_seal_82 : decode cX5_seal 82 = .ok (.iload_n 3, 1) := by decide +kernel
theorem dX5_seal_83 : decode cX5_seal 83 = .ok (.bipush 97, 2) := by decide +kernel
theorem dX5_seal_85 : decode cX5_seal 85 = .ok (.irem, 1) := by decide +kernel
theorem dX5_seal_86 : decode cX5_seal 86 = .ok (.iastore, 1) := by decide +kernel
theorem dX5_seal_87 : decode cX5_seal 87 = .ok (.iinc 1 1, 3) := by decide +kernel
theorem dX5_seal_90 : decode cX5_seal 90 = .ok (.goto (-88), 3) := by decide +kernel
theorem dX5_seal_93 : decode cX5_seal 93 = .ok (.aload_n 0, 1) := by decide +kernel
theorem dX5_seal_94 : decode cX5_seal 94 = .ok (.iconst 1, 1) := by decide +kernel
theorem dX5_seal_95 : decode cX5_seal 95 = .ok (.putfield 95, 3) := by decide +kernel
theorem dX5_seal_98 : decode cX5_seal 98 = .ok (.iconst 1, 1) := by decide +kernel
theorem dX5_seal_99 : decode cX5_seal 99 = .ok (.ireturn, 1) := by decide +kernel
theorem dX5_rest_0 : decode cX5_rest 0 = .ok (.iload_n 0, 1) := by decide +kernel
theorem dX5_rest_1 : decode cX5_rest 1 = .ok (.bipush 97, 2) := by decide +kernel
theorem dX5_rest_3 : decode cX5_rest 3 = .ok (.irem, 1) := by decide +kernel
theorem dX5_rest_4 : decode cX5_rest 4 = .ok (.bipush 97, 2) := by decide +kernel
theorem dX5_rest_6 : decode cX5_rest 6 = .ok (.iadd, 1) := by decide +kernel
theorem dX5_rest_7 : decode cX5_rest 7 = .ok (.bipush 97, 2) := by decide +kernel
theorem dX5_rest_9 : decode cX5_rest 9 = .ok (.irem, 1) := by decide +kernel
theorem dX5_rest_10 : decode cX5_rest 10 = .ok (.ireturn, 1) := by decide +kernel
theorem dX5_look_0 : decode cX5_look 0 = .ok (.aload_n 0, 1) := by decide +kernel
theorem dX5_look_1 : decode cX5_look 1 = .ok (.getfield 95, 3) := by decide +kernel
theorem dX5_look_4 : decode cX5_look 4 = .ok (.ifCond .ne 6, 3) := by decide +kernel
theorem dX5_look_7 : decode cX5_look 7 = .ok (.bipush (-3), 2) := by decide +kernel
theorem dX5_look_9 : decode cX5_look 9 = .ok (.ireturn, 1) := by decide +kernel
theorem dX5_look_10 : decode cX5_look 10 = .ok (.iconst 0, 1) := by decide +kernel
theorem dX5_look_11 : decode cX5_look 11 = .ok (.istore_n 1, 1) := by decide +kernel
theorem dX5_look_12 : decode cX5_look 12 = .ok (.iconst 0, 1) := by decide +kernel
theorem dX5_look_13 : decode cX5_look 13 = .ok (.istore_n 2, 1) := by decide +kernel
theorem dX5_look_14 : decode cX5_look 14 = .ok (.iconst 0, 1) := by decide +kernel
theorem dX5_look_15 : decode cX5_look 15 = .ok (.istore_n 3, 1) := by decide +kernel
theorem dX5_look_16 : decode cX5_look 16 = .ok (.iload_n 3, 1) := by decide +kernel
theorem dX5_look_17 : decode cX5_look 17 = .ok (.aload_n 0, 1) := by decide +kernel
theorem dX5_look_18 : decode cX5_look 18 = .ok (.getfield 13, 3) := by decide +kernel
theorem dX5_look_21 : decode cX5_look 21 = .ok (.if_icmp .ge 29, 3) := by decide +kernel
theorem dX5_look_24 : decode cX5_look 24 = .ok (.iload_n 1, 1) := by decide +kernel
theorem dX5_look_25 : decode cX5_look 25 = .ok (.aload_n 0, 1) := by decide +kernel
theorem dX5_look_26 : decode cX5_look 26 = .ok (.iload_n 3, 1) := by decide +kernel
theorem dX5_look_27 : decode cX5_look 27 = .ok (.invokevirtual 113, 3) := by decide +kernel
theorem dX5_look_30 : decode cX5_look 30 = .ok (.iadd, 1) := by decide +kernel
theorem dX5_look_31 : decode cX5_look 31 = .ok (.istore_n 1, 1) := by decide +kernel
theorem dX5_look_32 : decode cX5_look 32 = .ok (.iload_n 2, 1) := by decide +kernel
theorem dX5_look_33 : decode cX5_look 33 = .ok (.iload_n 3, 1) := by decide +kernel
theorem dX5_look_34 : decode cX5_look 34 = .ok (.iconst 1, 1) := by decide +kernel
theorem dX5_look_35 : decode cX5_look 35 = .ok (.iadd, 1) := by decide +kernel
theorem dX5_look_36 : decode cX5_look 36 = .ok (.aload_n 0, 1) := by decide +kernel
theorem dX5_look_37 : decode cX5_look 37 = .ok (.iload_n 3, 1) := by decide +kernel
theorem dX5_look_38 : decode cX5_look 38 = .ok (.invokevirtual 113, 3) := by decide +kernel
theorem dX5_look_41 : decode cX5_look 41 = .ok (.imul, 1) := by decide +kernel
theorem dX5_look_42 : decode cX5_look 42 = .ok (.iadd, 1) := by decide +kernel
theorem dX5_look_43 : decode cX5_look 43 = .ok (.istore_n 2, 1) := by decide +kernel
theorem dX5_look_44 : decode cX5_look 44 = .ok (.iinc 3 1, 3) := by decide +kernel
theorem dX5_look_47 : decode cX5_look 47 = .ok (.goto (-31), 3) := by decide +kernel
theorem dX5_look_50 : decode cX5_look 50 = .ok (.iconst 0, 1) := by decide +kernel
theorem dX5_look_51 : decode cX5_look 51 = .ok (.istore_n 3, 1) := by decide +kernel
theorem dX5_look_52 : decode cX5_look 52 = .ok (.iload_n 3, 1) := by decide +kernel
theorem dX5_look_53 : decode cX5_look 53 = .ok (.aload_n 0, 1) := by decide +kernel
theorem dX5_look_54 : decode cX5_look 54 = .ok (.getfield 7, 3) := by decide +kernel
theorem dX5_look_57 : decode cX5_look 57 = .ok (.if_icmp .ge 41, 3) := by decide +kernel
theorem dX5_look_60 : decode cX5_look 60 = .ok (.iload_n 1, 1) := by decide +kernel
theorem dX5_look_61 : decode cX5_look 61 = .ok (.aload_n 0, 1) := by decide +kernel
theorem dX5_look_62 : decode cX5_look 62 = .ok (.getfield 29, 3) := by decide +kernel
theorem dX5_look_65 : decode cX5_look 65 = .ok (.iload_n 3, 1) := by decide +kernel
theorem dX5_look_66 : decode cX5_look 66 = .ok (.iaload, 1) := by decide +kernel
theorem dX5_look_67 : decode cX5_look 67 = .ok (.aload_n 0, 1) := by decide +kernel
theorem dX5_look_68 : decode cX5_look 68 = .ok (.getfield 41, 3) := by decide +kernel
theorem dX5_look_71 : decode cX5_look 71 = .ok (.iload_n 3, 1) := by decide +kernel
theorem dX5_look_72 : decode cX5_look 72 = .ok (.iaload, 1) := by decide +kernel
theorem dX5_look_73 : decode cX5_look 73 = .ok (.imul, 1) := by decide +kernel
theorem dX5_look_74 : decode cX5_look 74 = .ok (.isub, 1) := by decide +kernel
theorem dX5_look_75 : decode cX5_look 75 = .ok (.istore_n 1, 1) := by decide +kernel
theorem dX5_look_76 : decode cX5_look 76 = .ok (.iload_n 2, 1) := by decide +kernel
theorem dX5_look_77 : decode cX5_look 77 = .ok (.aload_n 0, 1) := by decide +kernel
theorem dX5_look_78 : decode cX5_look 78 = .ok (.getfield 29, 3) := by decide +kernel
theorem dX5_look_81 : decode cX5_look 81 = .ok (.iload_n 3, 1) := by decide +kernel
theorem dX5_look_82 : decode cX5_look 82 = .ok (.iaload, 1) := by decide +kernel
theorem dX5_look_83 : decode cX5_look 83 = .ok (.aload_n 0, 1) := by decide +kernel
theorem dX5_look_84 : decode cX5_look 84 = .ok (.getfield 44, 3) := by decide +kernel
theorem dX5_look_87 : decode cX5_look 87 = .ok (.iload_n 3, 1) := by decide +kernel
theorem dX5_look_88 : decode cX5_look 88 = .ok (.iaload, 1) := by decide +kernel
theorem dX5_look_89 : decode cX5_look 89 = .ok (.imul, 1) := by decide +kernel
theorem dX5_look_90 : decode cX5_look 90 = .ok (.isub, 1) := by decide +kernel
theorem dX5_look_91 : decode cX5_look 91 = .ok (.istore_n 2, 1) := by decide +kernel
theorem dX5_look_92 : decode cX5_look 92 = .ok (.iinc 3 1, 3) := by decide +kernel
theorem dX5_look_95 : decode cX5_look 95 = .ok (.goto (-43), 3) := by decide +kernel
theorem dX5_look_98 : decode cX5_look 98 = .ok (.iload_n 1, 1) := by decide +kernel
theorem dX5_look_99 : decode cX5_look 99 = .ok (.invokestatic 144, 3) := by decide +kernel
theorem dX5_look_102 : decode cX5_look 102 = .ok (.istore_n 3, 1) := by decide +kernel
theorem dX5_look_103 : decode cX5_look 103 = .ok (.iload_n 2, 1) := by decide +kernel
theorem dX5_look_104 : decode cX5_look 104 = .ok (.invokestatic 144, 3) := by decide +kernel
theorem dX5_look_107 : decode cX5_look 107 = .ok (.istore 4, 2) := by decide +kernel
theorem dX5_look_109 : decode cX5_look 109 = .ok (.iload_n 3, 1) := by decide +kernel
theorem dX5_look_110 : decode cX5_look 110 = .ok (.ifCond .ne 10, 3) := by decide +kernel
theorem dX5_look_113 : decode cX5_look 113 = .ok (.iload 4, 2) := by decide +kernel
theorem dX5_look_115 : decode cX5_look 115 = .ok (.ifCond .ne 5, 3) := by decide +kernel
theorem dX5_look_118 : decode cX5_look 118 = .ok (.iconst (-1), 1) := by decide +kernel
theorem dX5_look_119 : decode cX5_look 119 = .ok (.ireturn, 1) := by decide +kernel
theorem dX5_look_120 : decode cX5_look 120 = .ok (.iconst 0, 1) := by decide +kernel
theorem dX5_look_121 : decode cX5_look 121 = .ok (.istore 5, 2) := by decide +kernel
theorem dX5_look_123 : decode cX5_look 123 = .ok (.iload 5, 2) := by decide +kernel
theorem dX5_look_125 : decode cX5_look 125 = .ok (.aload_n 0, 1) := by decide +kernel
theorem dX5_look_126 : decode cX5_look 126 = .ok (.getfield 13, 3) := by decide +kernel
theorem dX5_look_129 : decode cX5_look 129 = .ok (.if_icmp .ge 30, 3) := by decide +kernel
theorem dX5_look_132 : decode cX5_look 132 = .ok (.iload_n 3, 1) := by decide +kernel
theorem dX5_look_133 : decode cX5_look 133 = .ok (.ifCond .le 26, 3) := by decide +kernel
theorem dX5_look_136 : decode cX5_look 136 = .ok (.iload 4, 2) := by decide +kernel
theorem dX5_look_138 : decode cX5_look 138 = .ok (.iload_n 3, 1) := by decide +kernel
theorem dX5_look_139 : decode cX5_look 139 = .ok (.iload 5, 2) := by decide +kernel
theorem dX5_look_141 : decode cX5_look 141 = .ok (.iconst 1, 1) := by decide +kernel
theorem dX5_look_142 : decode cX5_look 142 = .ok (.iadd, 1) := by decide +kernel
theorem dX5_look_143 : decode cX5_look 143 = .ok (.imul, 1) := by decide +kernel
theorem dX5_look_144 : decode cX5_look 144 = .ok (.bipush 97, 2) := by decide +kernel
theorem dX5_look_146 : decode cX5_look 146 = .ok (.irem, 1) := by decide +kernel
theorem dX5_look_147 : decode cX5_look 147 = .ok (.if_icmp .ne 6, 3) := by decide +kernel
theorem dX5_look_150 : decode cX5_look 150 = .ok (.iload 5, 2) := by decide +kernel
theorem dX5_look_152 : decode cX5_look 152 = .ok (.ireturn, 1) := by decide +kernel
theorem dX5_look_153 : decode cX5_look 153 = .ok (.iinc 5 1, 3) := by decide +kernel
theorem dX5_look_156 : decode cX5_look 156 = .ok (.goto (-33), 3) := by decide +kernel
theorem dX5_look_159 : decode cX5_look 159 = .ok (.bipush 100, 2) := by decide +kernel
theorem dX5_look_161 : decode cX5_look 161 = .ok (.ireturn, 1) := by decide +kernel
theorem dX5_fade_0 : decode cX5_fade 0 = .ok (.iload_n 1, 1) := by decide +kernel
theorem dX5_fade_1 : decode cX5_fade 1 = .ok (.iconst 1, 1) := by decide +kernel
theorem dX5_fade_2 : decode cX5_fade 2 = .ok (.bipush 100, 2) := by decide +kernel
theorem dX5_fade_4 : decode cX5_fade 4 = .ok (.invokestatic 98, 3) := by decide +kernel
theorem dX5_fade_7 : decode cX5_fade 7 = .ok (.ifCond .ne 6, 3) := by decide +kernel
theorem dX5_fade_10 : decode cX5_fade 10 = .ok (.bipush (-2), 2) := by decide +kernel
theorem dX5_fade_12 : decode cX5_fade 12 = .ok (.ireturn, 1) := by decide +kernel
theorem dX5_fade_13 : decode cX5_fade 13 = .ok (.iconst 0, 1) := by decide +kernel
theorem dX5_fade_14 : decode cX5_fade 14 = .ok (.istore_n 2, 1) := by decide +kernel
theorem dX5_fade_15 : decode cX5_fade 15 = .ok (.iconst 0, 1) := by decide +kernel
theorem dX5_fade_16 : decode cX5_fade 16 = .ok (.istore_n 3, 1) := by decide +kernel
theorem dX5_fade_17 : decode cX5_fade 17 = .ok (.iload_n 3, 1) := by decide +kernel
theorem dX5_fade_18 : decode cX5_fade 18 = .ok (.iload_n 1, 1) := by decide +kernel
theorem dX5_fade_19 : decode cX5_fade 19 = .ok (.if_icmp .ge 116, 3) := by decide +kernel
theorem dX5_fade_22 : decode cX5_fade 22 = .ok (.iconst 0, 1) := by decide +kernel
theorem dX5_fade_23 : decode cX5_fade 23 = .ok (.istore 4, 2) := by decide +kernel
theorem dX5_fade_25 : decode cX5_fade 25 = .ok (.iload 4, 2) := by decide +kernel
theorem dX5_fade_27 : decode cX5_fade 27 = .ok (.bipush 24, 2) := by decide +kernel
theorem dX5_fade_29 : decode cX5_fade 29 = .ok (.aload_n 0, 1) := by decide +kernel
theorem dX5_fade_30 : decode cX5_fade 30 = .ok (.getfield 7, 3) := by decide +kernel
theorem dX5_fade_33 : decode cX5_fade 33 = .ok (.imul, 1) := by decide +kernel
theorem dX5_fade_34 : decode cX5_fade 34 = .ok (.if_icmp .ge 95, 3) := by decide +kernel
theorem dX5_fade_37 : decode cX5_fade 37 = .ok (.iload 4, 2) := by decide +kernel
theorem dX5_fade_39 : decode cX5_fade 39 = .ok (.bipush 24, 2) := by decide +kernel
theorem dX5_fade_41 : decode cX5_fade 41 = .ok (.irem, 1) := by decide +kernel
theorem dX5_fade_42 : decode cX5_fade 42 = .ok (.aload_n 0, 1) := by decide +kernel
theorem dX5_fade_43 : decode cX5_fade 43 = .ok (.getfield 13, 3) := by decide +kernel
theorem dX5_fade_46 : decode cX5_fade 46 = .ok (.if_icmp .ge 77, 3) := by decide +kernel
theorem dX5_fade_49 : decode cX5_fade 49 = .ok (.aload_n 0, 1) := by decide +kernel
theorem dX5_fade_50 : decode cX5_fade 50 = .ok (.getfield 23, 3) := by decide +kernel
theorem dX5_fade_53 : decode cX5_fade 53 = .ok (.iload 4, 2) := by decide +kernel
theorem dX5_fade_55 : decode cX5_fade 55 = .ok (.iaload, 1) := by decide +kernel
theorem dX5_fade_56 : decode cX5_fade 56 = .ok (.iconst (-1), 1) := by decide +kernel
theorem dX5_fade_57 : decode cX5_fade 57 = .ok (.if_icmp .ne 66, 3) := by decide +kernel
theorem dX5_fade_60 : decode cX5_fade 60 = .ok (.aload_n 0, 1) := by decide +kernel
theorem dX5_fade_61 : decode cX5_fade 61 = .ok (.getfield 26, 3) := by decide +kernel
theorem dX5_fade_64 : decode cX5_fade 64 = .ok (.iload 4, 2) := by decide +kernel
theorem dX5_fade_66 : decode cX5_fade 66 = .ok (.dup2, 1) := by decide +kernel
theorem dX5_fade_67 : decode cX5_fade 67 = .ok (.iaload, 1) := by decide +kernel
theorem dX5_fade_68 : decode cX5_fade 68 = .ok (.iconst 1, 1) := by decide +kernel
theorem dX5_fade_69 : decode cX5_fade 69 = .ok (.iadd, 1) := by decide +kernel
theorem dX5_fade_70 : decode cX5_fade 70 = .ok (.iastore, 1) := by decide +kernel
theorem dX5_fade_71 : decode cX5_fade 71 = .ok (.aload_n 0, 1) := by decide +kernel
theorem dX5_fade_72 : decode cX5_fade 72 = .ok (.getfield 19, 3) := by decide +kernel
theorem dX5_fade_75 : decode cX5_fade 75 = .ok (.iload 4, 2) := by decide +kernel
theorem dX5_fade_77 : decode cX5_fade 77 = .ok (.iaload, 1) := by decide +kernel
theorem dX5_fade_78 : decode cX5_fade 78 = .ok (.ifCond .le 45, 3) := by decide +kernel
theorem dX5_fade_81 : decode cX5_fade 81 = .ok (.aload_n 0, 1) := by decide +kernel
theorem dX5_fade_82 : decode cX5_fade 82 = .ok (.getfield 26, 3) := by decide +kernel
theorem dX5_fade_85 : decode cX5_fade 85 = .ok (.iload 4, 2) := by decide +kernel
theorem dX5_fade_87 : decode cX5_fade 87 = .ok (.iaload, 1) := by decide +kernel
theorem dX5_fade_88 : decode cX5_fade 88 = .ok (.bipush 16, 2) := by decide +kernel
theorem dX5_fade_90 : decode cX5_fade 90 = .ok (.aload_n 0, 1) := by decide +kernel
theorem dX5_fade_91 : decode cX5_fade 91 = .ok (.getfield 19, 3) := by decide +kernel
theorem dX5_fade_94 : decode cX5_fade 94 = .ok (.iload 4, 2) := by decide +kernel
theorem dX5_fade_96 : decode cX5_fade 96 = .ok (.iaload, 1) := by decide +kernel
theorem dX5_fade_97 : decode cX5_fade 97 = .ok (.isub, 1) := by decide +kernel
theorem dX5_fade_98 : decode cX5_fade 98 = .ok (.if_icmp .lt 25, 3) := by decide +kernel
theorem dX5_fade_101 : decode cX5_fade 101 = .ok (.aload_n 0, 1) := by decide +kernel
theorem dX5_fade_102 : decode cX5_fade 102 = .ok (.getfield 19, 3) := by decide +kernel
theorem dX5_fade_105 : decode cX5_fade 105 = .ok (.iload 4, 2) := by decide +kernel
theorem dX5_fade_107 : decode cX5_fade 107 = .ok (.dup2, 1) := by decide +kernel
theorem dX5_fade_108 : decode cX5_fade 108 = .ok (.iaload, 1) := by decide +kernel
theorem dX5_fade_109 : decode cX5_fade 109 = .ok (.iconst 1, 1) := by decide +kernel
theorem dX5_fade_110 : decode cX5_fade 110 = .ok (.isub, 1) := by decide +kernel
theorem dX5_fade_111 : decode cX5_fade 111 = .ok (.iastore, 1) := by decide +kernel
theorem dX5_fade_112 : decode cX5_fade 112 = .ok (.aload_n 0, 1) := by decide +kernel
theorem dX5_fade_113 : decode cX5_fade 113 = .ok (.getfield 26, 3) := by decide +kernel
theorem dX5_fade_116 : decode cX5_fade 116 = .ok (.iload 4, 2) := by decide +kernel
theorem dX5_fade_118 : decode cX5_fade 118 = .ok (.iconst 0, 1) := by decide +kernel
theorem dX5_fade_119 : decode cX5_fade 119 = .ok (.iastore, 1) := by decide +kernel
theorem dX5_fade_120 : decode cX5_fade 120 = .ok (.iinc 2 1, 3) := by decide +kernel
theorem dX5_fade_123 : decode cX5_fade 123 = .ok (.iinc 4 1, 3) := by decide +kernel
theorem dX5_fade_126 : decode cX5_fade 126 = .ok (.goto (-101), 3) := by decide +kernel
theorem dX5_fade_129 : decode cX5_fade 129 = .ok (.iinc 3 1, 3) := by decide +kernel
theorem dX5_fade_132 : decode cX5_fade 132 = .ok (.goto (-115), 3) := by decide +kernel
theorem dX5_fade_135 : decode cX5_fade 135 = .ok (.iload_n 2, 1) := by decide +kernel
theorem dX5_fade_136 : decode cX5_fade 136 = .ok (.ireturn, 1) := by decide +kernel
theorem dX5_pulse_0 : decode cX5_pulse 0 = .ok (.aload_n 0, 1) := by decide +kernel
theorem dX5_pulse_1 : decode cX5_pulse 1 = .ok (.iload_n 1, 1) := by decide +kernel
theorem dX5_pulse_2 : decode cX5_pulse 2 = .ok (.iload_n 2, 1) := by decide +kernel
theorem dX5_pulse_3 : decode cX5_pulse 3 = .ok (.invokevirtual 102, 3) := by decide +kernel
theorem dX5_pulse_6 : decode cX5_pulse 6 = .ok (.ifCond .eq 15, 3) := by decide +kernel
theorem dX5_pulse_9 : decode cX5_pulse 9 = .ok (.iload_n 3, 1) := by decide +kernel
theorem dX5_pulse_10 : decode cX5_pulse 10 = .ok (.iconst 0, 1) := by decide +kernel
theorem dX5_pulse_11 : decode cX5_pulse 11 = .ok (.aload_n 0, 1) := by decide +kernel
theorem dX5_pulse_12 : decode cX5_pulse 12 = .ok (.getfield 16, 3) := by decide +kernel
theorem dX5_pulse_15 : decode cX5_pulse 15 = .ok (.invokestatic 98, 3) := by decide +kernel
theorem dX5_pulse_18 : decode cX5_pulse 18 = .ok (.ifCond .ne 6, 3) := by decide +kernel
theorem dX5_pulse_21 : decode cX5_pulse 21 = .ok (.bipush (-2), 2) := by decide +kernel
theorem dX5_pulse_23 : decode cX5_pulse 23 = .ok (.ireturn, 1) := by decide +kernel
theorem dX5_pulse_24 : decode cX5_pulse 24 = .ok (.bipush 24, 2) := by decide +kernel
theorem dX5_pulse_26 : decode cX5_pulse 26 = .ok (.iload_n 1, 1) := by decide +kernel
theorem dX5_pulse_27 : decode cX5_pulse 27 = .ok (.imul, 1) := by decide +kernel
theorem dX5_pulse_28 : decode cX5_pulse 28 = .ok (.iload_n 2, 1) := by decide +kernel
theorem dX5_pulse_29 : decode cX5_pulse 29 = .ok (.iadd, 1) := by decide +kernel
theorem dX5_pulse_30 : decode cX5_pulse 30 = .ok (.istore 4, 2) := by decide +kernel
theorem dX5_pulse_32 : decode cX5_pulse 32 = .ok (.aload_n 0, 1) := by decide +kernel
theorem dX5_pulse_33 : decode cX5_pulse 33 = .ok (.getfield 23, 3) := by decide +kernel
theorem dX5_pulse_36 : decode cX5_pulse 36 = .ok (.iload 4, 2) := by decide +kernel
theorem dX5_pulse_38 : decode cX5_pulse 38 = .ok (.iaload, 1) := by decide +kernel
theorem dX5_pulse_39 : decode cX5_pulse 39 = .ok (.iconst (-1), 1) := by decide +kernel
theorem dX5_pulse_40 : decode cX5_pulse 40 = .ok (.if_icmp .eq 6, 3) := by decide +kernel
theorem dX5_pulse_43 : decode cX5_pulse 43 = .ok (.bipush (-3), 2) := by decide +kernel
theorem dX5_pulse_45 : decode cX5_pulse 45 = .ok (.ireturn, 1) := by decide +kernel
theorem dX5_pulse_46 : decode cX5_pulse 46 = .ok (.iconst 0, 1) := by decide +kernel
theorem dX5_pulse_47 : decode cX5_pulse 47 = .ok (.istore 5, 2) := by decide +kernel
theorem dX5_pulse_49 : decode cX5_pulse 49 = .ok (.aload_n 0, 1) := by decide +kernel
theorem dX5_pulse_50 : decode cX5_pulse 50 = .ok (.getfield 19, 3) := by decide +kernel
theorem dX5_pulse_53 : decode cX5_pulse 53 = .ok (.iload 4, 2) := by decide +kernel
theorem dX5_pulse_55 : decode cX5_pulse 55 = .ok (.iaload, 1) := by decide +kernel
theorem dX5_pulse_56 : decode cX5_pulse 56 = .ok (.iload_n 3, 1) := by decide +kernel
theorem dX5_pulse_57 : decode cX5_pulse 57 = .ok (.if_icmp .eq 82, 3) := by decide +kernel
theorem dX5_pulse_60 : decode cX5_pulse 60 = .ok (.iload 5, 2) := by decide +kernel
theorem dX5_pulse_62 : decode cX5_pulse 62 = .ok (.bipush 40, 2) := by decide +kernel
theorem dX5_pulse_64 : decode cX5_pulse 64 = .ok (.if_icmp .ge 75, 3) := by decide +kernel
theorem dX5_pulse_67 : decode cX5_pulse 67 = .ok (.aload_n 0, 1) := by decide +kernel
theorem dX5_pulse_68 : decode cX5_pulse 68 = .ok (.getfield 19, 3) := by decide +kernel
theorem dX5_pulse_71 : decode cX5_pulse 71 = .ok (.iload 4, 2) := by decide +kernel
theorem dX5_pulse_73 : decode cX5_pulse 73 = .ok (.iaload, 1) := by decide +kernel
theorem dX5_pulse_74 : decode cX5_pulse 74 = .ok (.iconst 2, 1) := by decide +kernel
theorem dX5_pulse_75 : decode cX5_pulse 75 = .ok (.iadd, 1) := by decide +kernel
theorem dX5_pulse_76 : decode cX5_pulse 76 = .ok (.aload_n 0, 1) := by decide +kernel
theorem dX5_pulse_77 : decode cX5_pulse 77 = .ok (.getfield 16, 3) := by decide +kernel
theorem dX5_pulse_80 : decode cX5_pulse 80 = .ok (.if_icmp .le 10, 3) := by decide +kernel
theorem dX5_pulse_83 : decode cX5_pulse 83 = .ok (.aload_n 0, 1) := by decide +kernel
theorem dX5_pulse_84 : decode cX5_pulse 84 = .ok (.getfield 16, 3) := by decide +kernel
theorem dX5_pulse_87 : decode cX5_pulse 87 = .ok (.goto 12, 3) := by decide +kernel
theorem dX5_pulse_90 : decode cX5_pulse 90 = .ok (.aload_n 0, 1) := by decide +kernel
theorem dX5_pulse_91 : decode cX5_pulse 91 = .ok (.getfield 19, 3) := by decide +kernel
theorem dX5_pulse_94 : decode cX5_pulse 94 = .ok (.iload 4, 2) := by decide +kernel
theorem dX5_pulse_96 : decode cX5_pulse 96 = .ok (.iaload, 1) := by decide +kernel
theorem dX5_pulse_97 : decode cX5_pulse 97 = .ok (.iconst 2, 1) := by decide +kernel
theorem dX5_pulse_98 : decode cX5_pulse 98 = .ok (.iadd, 1) := by decide +kernel
theorem dX5_pulse_99 : decode cX5_pulse 99 = .ok (.istore 6, 2) := by decide +kernel
theorem dX5_pulse_101 : decode cX5_pulse 101 = .ok (.aload_n 0, 1) := by decide +kernel
theorem dX5_pulse_102 : decode cX5_pulse 102 = .ok (.getfield 19, 3) := by decide +kernel
theorem dX5_pulse_105 : decode cX5_pulse 105 = .ok (.iload 4, 2) := by decide +kernel
theorem dX5_pulse_107 : decode cX5_pulse 107 = .ok (.aload_n 0, 1) := by decide +kernel
theorem dX5_pulse_108 : decode cX5_pulse 108 = .ok (.getfield 19, 3) := by decide +kernel
theorem dX5_pulse_111 : decode cX5_pulse 111 = .ok (.iload 4, 2) := by decide +kernel
theorem dX5_pulse_113 : decode cX5_pulse 113 = .ok (.iaload, 1) := by decide +kernel
theorem dX5_pulse_114 : decode cX5_pulse 114 = .ok (.iload_n 3, 1) := by decide +kernel
theorem dX5_pulse_115 : decode cX5_pulse 115 = .ok (.if_icmp .ge 8, 3) := by decide +kernel
theorem dX5_pulse_118 : decode cX5_pulse 118 = .ok (.iload 6, 2) := by decide +kernel
theorem dX5_pulse_120 : decode cX5_pulse 120 = .ok (.goto 12, 3) := by decide +kernel
theorem dX5_pulse_123 : decode cX5_pulse 123 = .ok (.aload_n 0, 1) := by decide +kernel
theorem dX5_pulse_124 : decode cX5_pulse 124 = .ok (.getfield 19, 3) := by decide +kernel
theorem dX5_pulse_127 : decode cX5_pulse 127 = .ok (.iload 4, 2) := by decide +kernel
theorem dX5_pulse_129 : decode cX5_pulse 129 = .ok (.iaload, 1) := by decide +kernel
theorem dX5_pulse_130 : decode cX5_pulse 130 = .ok (.iconst 1, 1) := by decide +kernel
theorem dX5_pulse_131 : decode cX5_pulse 131 = .ok (.isub, 1) := by decide +kernel
theorem dX5_pulse_132 : decode cX5_pulse 132 = .ok (.iastore, 1) := by decide +kernel
theorem dX5_pulse_133 : decode cX5_pulse 133 = .ok (.iinc 5 1, 3) := by decide +kernel
theorem dX5_pulse_136 : decode cX5_pulse 136 = .ok (.goto (-87), 3) := by decide +kernel
theorem dX5_pulse_139 : decode cX5_pulse 139 = .ok (.aload_n 0, 1) := by decide +kernel
theorem dX5_pulse_140 : decode cX5_pulse 140 = .ok (.getfield 26, 3) := by decide +kernel
theorem dX5_pulse_143 : decode cX5_pulse 143 = .ok (.iload 4, 2) := by decide +kernel
theorem dX5_pulse_145 : decode cX5_pulse 145 = .ok (.iload 5, 2) := by decide +kernel
theorem dX5_pulse_147 : decode cX5_pulse 147 = .ok (.ifCond .le 7, 3) := by decide +kernel
theorem dX5_pulse_150 : decode cX5_pulse 150 = .ok (.iconst 0, 1) := by decide +kernel
theorem dX5_pulse_151 : decode cX5_pulse 151 = .ok (.goto 10, 3) := by decide +kernel
theorem dX5_pulse_154 : decode cX5_pulse 154 = .ok (.aload_n 0, 1) := by decide +kernel
theorem dX5_pulse_155 : decode cX5_pulse 155 = .ok (.getfield 26, 3) := by decide +kernel
theorem dX5_pulse_158 : decode cX5_pulse 158 = .ok (.iload 4, 2) := by decide +kernel
theorem dX5_pulse_160 : decode cX5_pulse 160 = .ok (.iaload, 1) := by decide +kernel
theorem dX5_pulse_161 : decode cX5_pulse 161 = .ok (.iastore, 1) := by decide +kernel
theorem dX5_pulse_162 : decode cX5_pulse 162 = .ok (.iload 5, 2) := by decide +kernel
theorem dX5_pulse_164 : decode cX5_pulse 164 = .ok (.ireturn, 1) := by decide +kernel
theorem dX5_isNew_0 : decode cX5_isNew 0 = .ok (.lload_n 1, 1) := by decide +kernel
theorem dX5_isNew_1 : decode cX5_isNew 1 = .ok (.ldc2_w 147, 3) := by decide +kernel
theorem dX5_isNew_4 : decode cX5_isNew 4 = .ok (.lmul, 1) := by decide +kernel
theorem dX5_isNew_5 : decode cX5_isNew 5 = .ok (.lstore_n 3, 1) := by decide +kernel
theorem dX5_isNew_6 : decode cX5_isNew 6 = .ok (.lload_n 3, 1) := by decide +kernel
theorem dX5_isNew_7 : decode cX5_isNew 7 = .ok (.bipush 50, 2) := by decide +kernel
theorem dX5_isNew_9 : decode cX5_isNew 9 = .ok (.lushr, 1) := by decide +kernel
theorem dX5_isNew_10 : decode cX5_isNew 10 = .ok (.l2i, 1) := by decide +kernel
theorem dX5_isNew_11 : decode cX5_isNew 11 = .ok (.istore 5, 2) := by decide +kernel
theorem dX5_isNew_13 : decode cX5_isNew 13 = .ok (.aload_n 0, 1) := by decide +kernel
theorem dX5_isNew_14 : decode cX5_isNew 14 = .ok (.getfield 69, 3) := by decide +kernel
theorem dX5_isNew_17 : decode cX5_isNew 17 = .ok (.iload 5, 2) := by decide +kernel
theorem dX5_isNew_19 : decode cX5_isNew 19 = .ok (.iaload, 1) := by decide +kernel
theorem dX5_isNew_20 : decode cX5_isNew 20 = .ok (.ifCond .eq 37, 3) := by decide +kernel
theorem dX5_isNew_23 : decode cX5_isNew 23 = .ok (.aload_n 0, 1) := by decide +kernel
theorem dX5_isNew_24 : decode cX5_isNew 24 = .ok (.getfield 59, 3) := by decide +kernel
theorem dX5_isNew_27 : decode cX5_isNew 27 = .ok (.aload_n 0, 1) := by decide +kernel
theorem dX5_isNew_28 : decode cX5_isNew 28 = .ok (.getfield 69, 3) := by decide +kernel
theorem dX5_isNew_31 : decode cX5_isNew 31 = .ok (.iload 5, 2) := by decide +kernel
theorem dX5_isNew_33 : decode cX5_isNew 33 = .ok (.iaload, 1) := by decide +kernel
theorem dX5_isNew_34 : decode cX5_isNew 34 = .ok (.iconst 1, 1) := by decide +kernel
theorem dX5_isNew_35 : decode cX5_isNew 35 = .ok (.isub, 1) := by decide +kernel
theorem dX5_isNew_36 : decode cX5_isNew 36 = .ok (.laload, 1) := by decide +kernel
theorem dX5_isNew_37 : decode cX5_isNew 37 = .ok (.lload_n 1, 1) := by decide +kernel
theorem dX5_isNew_38 : decode cX5_isNew 38 = .ok (.lcmp, 1) := by decide +kernel
theorem dX5_isNew_39 : decode cX5_isNew 39 = .ok (.ifCond .ne 5, 3) := by decide +kernel
theorem dX5_isNew_42 : decode cX5_isNew 42 = .ok (.iconst 0, 1) := by decide +kernel
theorem dX5_isNew_43 : decode cX5_isNew 43 = .ok (.ireturn, 1) := by decide +kernel
theorem dX5_isNew_44 : decode cX5_isNew 44 = .ok (.iload 5, 2) := by decide +kernel
theorem dX5_isNew_46 : decode cX5_isNew 46 = .ok (.iconst 1, 1) := by decide +kernel
theorem dX5_isNew_47 : decode cX5_isNew 47 = .ok (.iadd, 1) := by decide +kernel
theorem dX5_isNew_48 : decode cX5_isNew 48 = .ok (.sipush 16384, 3) := by decide +kernel
theorem dX5_isNew_51 : decode cX5_isNew 51 = .ok (.irem, 1) := by decide +kernel
theorem dX5_isNew_52 : decode cX5_isNew 52 = .ok (.istore 5, 2) := by decide +kernel
theorem dX5_isNew_54 : decode cX5_isNew 54 = .ok (.goto (-41), 3) := by decide +kernel
theorem dX5_isNew_57 : decode cX5_isNew 57 = .ok (.aload_n 0, 1) := by decide +kernel
theorem dX5_isNew_58 : decode cX5_isNew 58 = .ok (.getfield 149, 3) := by decide +kernel
theorem dX5_isNew_61 : decode cX5_isNew 61 = .ok (.sipush 8000, 3) := by decide +kernel
theorem dX5_isNew_64 : decode cX5_isNew 64 = .ok (.if_icmp .ge 16, 3) := by decide +kernel
theorem dX5_isNew_67 : decode cX5_isNew 67 = .ok (.aload_n 0, 1) := by decide +kernel
theorem dX5_isNew_68 : decode cX5_isNew 68 = .ok (.getfield 69, 3) := by decide +kernel
theorem dX5_isNew_71 : decode cX5_isNew 71 = .ok (.iload 5, 2) := by decide +kernel
theorem dX5_isNew_73 : decode cX5_isNew 73 = .ok (.aload_n 0, 1) := by decide +kernel
theorem dX5_isNew_74 : decode cX5_isNew 74 = .ok (.getfield 149, 3) := by decide +kernel
theorem dX5_isNew_77 : decode cX5_isNew 77 = .ok (.iconst 1, 1) := by decide +kernel
theorem dX5_isNew_78 : decode cX5_isNew 78 = .ok (.iadd, 1) := by decide +kernel
theorem dX5_isNew_79 : decode cX5_isNew 79 = .ok (.iastore, 1) := by decide +kernel
theorem dX5_isNew_80 : decode cX5_isNew 80 = .ok (.iconst 1, 1) := by decide +kernel
theorem dX5_isNew_81 : decode cX5_isNew 81 = .ok (.ireturn, 1) := by decide +kernel
theorem dX5_meets_0 : decode cX5_meets 0 = .ok (.aload_n 0, 1) := by decide +kernel
theorem dX5_meets_1 : decode cX5_meets 1 = .ok (.lload_n 1, 1) := by decide +kernel
theorem dX5_meets_2 : decode cX5_meets 2 = .ok (.invokevirtual 152, 3) := by decide +kernel
theorem dX5_meets_5 : decode cX5_meets 5 = .ok (.ifCond .ne 5, 3) := by decide +kernel
theorem dX5_meets_8 : decode cX5_meets 8 = .ok (.iconst 1, 1) := by decide +kernel
theorem dX5_meets_9 : decode cX5_meets 9 = .ok (.ireturn, 1) := by decide +kernel
theorem dX5_meets_10 : decode cX5_meets 10 = .ok (.aload_n 0, 1) := by decide +kernel
theorem dX5_meets_11 : decode cX5_meets 11 = .ok (.getfield 149, 3) := by decide +kernel
theorem dX5_meets_14 : decode cX5_meets 14 = .ok (.sipush 8000, 3) := by decide +kernel
theorem dX5_meets_17 : decode cX5_meets 17 = .ok (.if_icmp .ne 5, 3) := by decide +kernel
theorem dX5_meets_20 : decode cX5_meets 20 = .ok (.iconst 0, 1) := by decide +kernel
theorem dX5_meets_21 : decode cX5_meets 21 = .ok (.ireturn, 1) := by decide +kernel
theorem dX5_meets_22 : decode cX5_meets 22 = .ok (.aload_n 0, 1) := by decide +kernel
theorem dX5_meets_23 : decode cX5_meets 23 = .ok (.getfield 59, 3) := by decide +kernel
theorem dX5_meets_26 : decode cX5_meets 26 = .ok (.aload_n 0, 1) := by decide +kernel
theorem dX5_meets_27 : decode cX5_meets 27 = .ok (.getfield 149, 3) := by decide +kernel
theorem dX5_meets_30 : decode cX5_meets 30 = .ok (.lload_n 1, 1) := by decide +kernel
theorem dX5_meets_31 : decode cX5_meets 31 = .ok (.lastore, 1) := by decide +kernel
theorem dX5_meets_32 : decode cX5_meets 32 = .ok (.aload_n 0, 1) := by decide +kernel
theorem dX5_meets_33 : decode cX5_meets 33 = .ok (.getfield 63, 3) := by decide +kernel
theorem dX5_meets_36 : decode cX5_meets 36 = .ok (.aload_n 0, 1) := by decide +kernel
theorem dX5_meets_37 : decode cX5_meets 37 = .ok (.getfield 149, 3) := by decide +kernel
theorem dX5_meets_40 : decode cX5_meets 40 = .ok (.iload_n 3, 1) := by decide +kernel
theorem dX5_meets_41 : decode cX5_meets 41 = .ok (.iastore, 1) := by decide +kernel
