theorem dX3_spellRow_37 : decode cX3_spellRow 37 = .ok (.iload_n 3, 1) := by decide +kernel
theorem dX3_spellRow_38 : decode cX3_spellRow 38 = .ok (.imul, 1) := by decide +kernel
theorem dX3_spellRow_39 : decode cX3_spellRow 39 = .ok (.iload 4, 2) := by decide +kernel
theorem dX3_spellRow_41 : decode cX3_spellRow 41 = .ok (.ifCond .ge 10, 3) := by decide +kernel
theorem dX3_spellRow_44 : decode cX3_spellRow 44 = .ok (.aload_n 0, 1) := by decide +kernel
theorem dX3_spellRow_45 : decode cX3_spellRow 45 = .ok (.getfield 38, 3) := by decide +kernel
theorem dX3_spellRow_48 : decode cX3_spellRow 48 = .ok (.goto 4, 3) := by decide +kernel
theorem dX3_spellRow_51 : decode cX3_spellRow 51 = .ok (.iconst 0, 1) := by decide +kernel
theorem dX3_spellRow_52 : decode cX3_spellRow 52 = .ok (.iadd, 1) := by decide +kernel
theorem dX3_spellRow_53 : decode cX3_spellRow 53 = .ok (.istore 5, 2) := by decide +kernel
theorem dX3_spellRow_55 : decode cX3_spellRow 55 = .ok (.iload 4, 2) := by decide +kernel
theorem dX3_spellRow_57 : decode cX3_spellRow 57 = .ok (.invokestatic 70, 3) := by decide +kernel
theorem dX3_spellRow_60 : decode cX3_spellRow 60 = .ok (.istore 6, 2) := by decide +kernel
theorem dX3_spellRow_62 : decode cX3_spellRow 62 = .ok (.iconst 0, 1) := by decide +kernel
theorem dX3_spellRow_63 : decode cX3_spellRow 63 = .ok (.istore 7, 2) := by decide +kernel
theorem dX3_spellRow_65 : decode cX3_spellRow 65 = .ok (.iload 7, 2) := by decide +kernel
theorem dX3_spellRow_67 : decode cX3_spellRow 67 = .ok (.aload_n 0, 1) := by decide +kernel
theorem dX3_spellRow_68 : decode cX3_spellRow 68 = .ok (.getfield 38, 3) := by decide +kernel
theorem dX3_spellRow_71 : decode cX3_spellRow 71 = .ok (.if_icmp .ge 29, 3) := by decide +kernel
theorem dX3_spellRow_74 : decode cX3_spellRow 74 = .ok (.aload_n 0, 1) := by decide +kernel
theorem dX3_spellRow_75 : decode cX3_spellRow 75 = .ok (.getfield 18, 3) := by decide +kernel
theorem dX3_spellRow_78 : decode cX3_spellRow 78 = .ok (.iload 5, 2) := by decide +kernel
theorem dX3_spellRow_80 : decode cX3_spellRow 80 = .ok (.iload 7, 2) := by decide +kernel
theorem dX3_spellRow_82 : decode cX3_spellRow 82 = .ok (.iadd, 1) := by decide +kernel
theorem dX3_spellRow_83 : decode cX3_spellRow 83 = .ok (.iload 6, 2) := by decide +kernel
theorem dX3_spellRow_85 : decode cX3_spellRow 85 = .ok (.iload_n 2, 1) := by decide +kernel
theorem dX3_spellRow_86 : decode cX3_spellRow 86 = .ok (.irem, 1) := by decide +kernel
theorem dX3_spellRow_87 : decode cX3_spellRow 87 = .ok (.iastore, 1) := by decide +kernel
theorem dX3_spellRow_88 : decode cX3_spellRow 88 = .ok (.iload 6, 2) := by decide +kernel
theorem dX3_spellRow_90 : decode cX3_spellRow 90 = .ok (.iload_n 2, 1) := by decide +kernel
theorem dX3_spellRow_91 : decode cX3_spellRow 91 = .ok (.idiv, 1) := by decide +kernel
theorem dX3_spellRow_92 : decode cX3_spellRow 92 = .ok (.istore 6, 2) := by decide +kernel
theorem dX3_spellRow_94 : decode cX3_spellRow 94 = .ok (.iinc 7 1, 3) := by decide +kernel
theorem dX3_spellRow_97 : decode cX3_spellRow 97 = .ok (.goto (-32), 3) := by decide +kernel
theorem dX3_spellRow_100 : decode cX3_spellRow 100 = .ok (.iinc 3 1, 3) := by decide +kernel
theorem dX3_spellRow_103 : decode cX3_spellRow 103 = .ok (.goto (-88), 3) := by decide +kernel
theorem dX3_spellRow_106 : decode cX3_spellRow 106 = .ok (.return_, 1) := by decide +kernel
theorem dX3_layAll_0 : decode cX3_layAll 0 = .ok (.iconst 0, 1) := by decide +kernel
theorem dX3_layAll_1 : decode cX3_layAll 1 = .ok (.istore_n 1, 1) := by decide +kernel
theorem dX3_layAll_2 : decode cX3_layAll 2 = .ok (.iconst 0, 1) := by decide +kernel
theorem dX3_layAll_3 : decode cX3_layAll 3 = .ok (.istore_n 2, 1) := by decide +kernel
theorem dX3_layAll_4 : decode cX3_layAll 4 = .ok (.iload_n 2, 1) := by decide +kernel
theorem dX3_layAll_5 : decode cX3_layAll 5 = .ok (.aload_n 0, 1) := by decide +kernel
theorem dX3_layAll_6 : decode cX3_layAll 6 = .ok (.getfield 31, 3) := by decide +kernel
theorem dX3_layAll_9 : decode cX3_layAll 9 = .ok (.if_icmp .ge 87, 3) := by decide +kernel
theorem dX3_layAll_12 : decode cX3_layAll 12 = .ok (.aload_n 0, 1) := by decide +kernel
theorem dX3_layAll_13 : decode cX3_layAll 13 = .ok (.iload_n 2, 1) := by decide +kernel
theorem dX3_layAll_14 : decode cX3_layAll 14 = .ok (.invokevirtual 76, 3) := by decide +kernel
theorem dX3_layAll_17 : decode cX3_layAll 17 = .ok (.iconst 0, 1) := by decide +kernel
theorem dX3_layAll_18 : decode cX3_layAll 18 = .ok (.istore_n 3, 1) := by decide +kernel
theorem dX3_layAll_19 : decode cX3_layAll 19 = .ok (.iload_n 3, 1) := by decide +kernel
theorem dX3_layAll_20 : decode cX3_layAll 20 = .ok (.aload_n 0, 1) := by decide +kernel
theorem dX3_layAll_21 : decode cX3_layAll 21 = .ok (.invokevirtual 80, 3) := by decide +kernel
theorem dX3_layAll_24 : decode cX3_layAll 24 = .ok (.if_icmp .ge 66, 3) := by decide +kernel
theorem dX3_layAll_27 : decode cX3_layAll 27 = .ok (.aload_n 0, 1) := by decide +kernel
theorem dX3_layAll_28 : decode cX3_layAll 28 = .ok (.getfield 27, 3) := by decide +kernel
theorem dX3_layAll_31 : decode cX3_layAll 31 = .ok (.aload_n 0, 1) := by decide +kernel
theorem dX3_layAll_32 : decode cX3_layAll 32 = .ok (.getfield 15, 3) := by decide +kernel
theorem dX3_layAll_35 : decode cX3_layAll 35 = .ok (.iload_n 2, 1) := by decide +kernel
theorem dX3_layAll_36 : decode cX3_layAll 36 = .ok (.iaload, 1) := by decide +kernel
theorem dX3_layAll_37 : decode cX3_layAll 37 = .ok (.iload_n 3, 1) := by decide +kernel
theorem dX3_layAll_38 : decode cX3_layAll 38 = .ok (.invokevirtual 83, 3) := by decide +kernel
theorem dX3_layAll_41 : decode cX3_layAll 41 = .ok (.istore 4, 2) := by decide +kernel
theorem dX3_layAll_43 : decode cX3_layAll 43 = .ok (.aload_n 0, 1) := by decide +kernel
theorem dX3_layAll_44 : decode cX3_layAll 44 = .ok (.getfield 27, 3) := by decide +kernel
theorem dX3_layAll_47 : decode cX3_layAll 47 = .ok (.iload 4, 2) := by decide +kernel
theorem dX3_layAll_49 : decode cX3_layAll 49 = .ok (.aload_n 0, 1) := by decide +kernel
theorem dX3_layAll_50 : decode cX3_layAll 50 = .ok (.getfield 18, 3) := by decide +kernel
theorem dX3_layAll_53 : decode cX3_layAll 53 = .ok (.iload_n 3, 1) := by decide +kernel
theorem dX3_layAll_54 : decode cX3_layAll 54 = .ok (.iaload, 1) := by decide +kernel
theorem dX3_layAll_55 : decode cX3_layAll 55 = .ok (.invokevirtual 86, 3) := by decide +kernel
theorem dX3_layAll_58 : decode cX3_layAll 58 = .ok (.iload_n 1, 1) := by decide +kernel
theorem dX3_layAll_59 : decode cX3_layAll 59 = .ok (.aload_n 0, 1) := by decide +kernel
theorem dX3_layAll_60 : decode cX3_layAll 60 = .ok (.getfield 27, 3) := by decide +kernel
theorem dX3_layAll_63 : decode cX3_layAll 63 = .ok (.iload 4, 2) := by decide +kernel
theorem dX3_layAll_65 : decode cX3_layAll 65 = .ok (.aload_n 0, 1) := by decide +kernel
theorem dX3_layAll_66 : decode cX3_layAll 66 = .ok (.getfield 18, 3) := by decide +kernel
theorem dX3_layAll_69 : decode cX3_layAll 69 = .ok (.iload_n 3, 1) := by decide +kernel
theorem dX3_layAll_70 : decode cX3_layAll 70 = .ok (.iaload, 1) := by decide +kernel
theorem dX3_layAll_71 : decode cX3_layAll 71 = .ok (.invokevirtual 90, 3) := by decide +kernel
theorem dX3_layAll_74 : decode cX3_layAll 74 = .ok (.ifCond .eq 7, 3) := by decide +kernel
theorem dX3_layAll_77 : decode cX3_layAll 77 = .ok (.iconst 1, 1) := by decide +kernel
theorem dX3_layAll_78 : decode cX3_layAll 78 = .ok (.goto 4, 3) := by decide +kernel
theorem dX3_layAll_81 : decode cX3_layAll 81 = .ok (.iconst 0, 1) := by decide +kernel
theorem dX3_layAll_82 : decode cX3_layAll 82 = .ok (.iadd, 1) := by decide +kernel
theorem dX3_layAll_83 : decode cX3_layAll 83 = .ok (.istore_n 1, 1) := by decide +kernel
theorem dX3_layAll_84 : decode cX3_layAll 84 = .ok (.iinc 3 1, 3) := by decide +kernel
theorem dX3_layAll_87 : decode cX3_layAll 87 = .ok (.goto (-68), 3) := by decide +kernel
theorem dX3_layAll_90 : decode cX3_layAll 90 = .ok (.iinc 2 1, 3) := by decide +kernel
theorem dX3_layAll_93 : decode cX3_layAll 93 = .ok (.goto (-89), 3) := by decide +kernel
theorem dX3_layAll_96 : decode cX3_layAll 96 = .ok (.aload_n 0, 1) := by decide +kernel
theorem dX3_layAll_97 : decode cX3_layAll 97 = .ok (.iconst 1, 1) := by decide +kernel
theorem dX3_layAll_98 : decode cX3_layAll 98 = .ok (.putfield 41, 3) := by decide +kernel
theorem dX3_layAll_101 : decode cX3_layAll 101 = .ok (.iload_n 1, 1) := by decide +kernel
theorem dX3_layAll_102 : decode cX3_layAll 102 = .ok (.ireturn, 1) := by decide +kernel
theorem dX3_meshProduct_0 : decode cX3_meshProduct 0 = .ok (.lconst 0, 1) := by decide +kernel
theorem dX3_meshProduct_1 : decode cX3_meshProduct 1 = .ok (.lstore_n 2, 1) := by decide +kernel
theorem dX3_meshProduct_2 : decode cX3_meshProduct 2 = .ok (.iconst 0, 1) := by decide +kernel
theorem dX3_meshProduct_3 : decode cX3_meshProduct 3 = .ok (.istore 4, 2) := by decide +kernel
theorem dX3_meshProduct_5 : decode cX3_meshProduct 5 = .ok (.iload 4, 2) := by decide +kernel
theorem dX3_meshProduct_7 : decode cX3_meshProduct 7 = .ok (.bipush 8, 2) := by decide +kernel
theorem dX3_meshProduct_9 : decode cX3_meshProduct 9 = .ok (.if_icmp .ge 107, 3) := by decide +kernel
theorem dX3_meshProduct_12 : decode cX3_meshProduct 12 = .ok (.lconst 1, 1) := by decide +kernel
theorem dX3_meshProduct_13 : decode cX3_meshProduct 13 = .ok (.iload 4, 2) := by decide +kernel
theorem dX3_meshProduct_15 : decode cX3_meshProduct 15 = .ok (.lshl, 1) := by decide +kernel
theorem dX3_meshProduct_16 : decode cX3_meshProduct 16 = .ok (.lstore 5, 2) := by decide +kernel
theorem dX3_meshProduct_18 : decode cX3_meshProduct 18 = .ok (.iconst 0, 1) := by decide +kernel
theorem dX3_meshProduct_19 : decode cX3_meshProduct 19 = .ok (.istore 7, 2) := by decide +kernel
theorem dX3_meshProduct_21 : decode cX3_meshProduct 21 = .ok (.iload 7, 2) := by decide +kernel
theorem dX3_meshProduct_23 : decode cX3_meshProduct 23 = .ok (.aload_n 0, 1) := by decide +kernel
theorem dX3_meshProduct_24 : decode cX3_meshProduct 24 = .ok (.getfield 38, 3) := by decide +kernel
theorem dX3_meshProduct_27 : decode cX3_meshProduct 27 = .ok (.if_icmp .ge 83, 3) := by decide +kernel
theorem dX3_meshProduct_30 : decode cX3_meshProduct 30 = .ok (.iconst 2, 1) := by decide +kernel
theorem dX3_meshProduct_31 : decode cX3_meshProduct 31 = .ok (.aload_n 0, 1) := by decide +kernel
theorem dX3_meshProduct_32 : decode cX3_meshProduct 32 = .ok (.getfield 38, 3) := by decide +kernel
theorem dX3_meshProduct_35 : decode cX3_meshProduct 35 = .ok (.imul, 1) := by decide +kernel
theorem dX3_meshProduct_36 : decode cX3_meshProduct 36 = .ok (.iload_n 1, 1) := by decide +kernel
theorem dX3_meshProduct_37 : decode cX3_meshProduct 37 = .ok (.imul, 1) := by decide +kernel
theorem dX3_meshProduct_38 : decode cX3_meshProduct 38 = .ok (.iload 7, 2) := by decide +kernel
theorem dX3_meshProduct_40 : decode cX3_meshProduct 40 = .ok (.iadd, 1) := by decide +kernel
theorem dX3_meshProduct_41 : decode cX3_meshProduct 41 = .ok (.istore 8, 2) := by decide +kernel
theorem dX3_meshProduct_43 : decode cX3_meshProduct 43 = .ok (.aload_n 0, 1) := by decide +kernel
theorem dX3_meshProduct_44 : decode cX3_meshProduct 44 = .ok (.getfield 27, 3) := by decide +kernel
theorem dX3_meshProduct_47 : decode cX3_meshProduct 47 = .ok (.aload_n 0, 1) := by decide +kernel
theorem dX3_meshProduct_48 : decode cX3_meshProduct 48 = .ok (.iload 8, 2) := by decide +kernel
theorem dX3_meshProduct_50 : decode cX3_meshProduct 50 = .ok (.iload 4, 2) := by decide +kernel
theorem dX3_meshProduct_52 : decode cX3_meshProduct 52 = .ok (.invokevirtual 94, 3) := by decide +kernel
theorem dX3_meshProduct_55 : decode cX3_meshProduct 55 = .ok (.invokevirtual 97, 3) := by decide +kernel
theorem dX3_meshProduct_58 : decode cX3_meshProduct 58 = .ok (.istore 9, 2) := by decide +kernel
theorem dX3_meshProduct_60 : decode cX3_meshProduct 60 = .ok (.aload_n 0, 1) := by decide +kernel
theorem dX3_meshProduct_61 : decode cX3_meshProduct 61 = .ok (.getfield 27, 3) := by decide +kernel
theorem dX3_meshProduct_64 : decode cX3_meshProduct 64 = .ok (.aload_n 0, 1) := by decide +kernel
theorem dX3_meshProduct_65 : decode cX3_meshProduct 65 = .ok (.iload 8, 2) := by decide +kernel
theorem dX3_meshProduct_67 : decode cX3_meshProduct 67 = .ok (.aload_n 0, 1) := by decide +kernel
theorem dX3_meshProduct_68 : decode cX3_meshProduct 68 = .ok (.getfield 38, 3) := by decide +kernel
theorem dX3_meshProduct_71 : decode cX3_meshProduct 71 = .ok (.iadd, 1) := by decide +kernel
theorem dX3_meshProduct_72 : decode cX3_meshProduct 72 = .ok (.iload 4, 2) := by decide +kernel
theorem dX3_meshProduct_74 : decode cX3_meshProduct 74 = .ok (.invokevirtual 94, 3) := by decide +kernel
theorem dX3_meshProduct_77 : decode cX3_meshProduct 77 = .ok (.invokevirtual 97, 3) := by decide +kernel
theorem dX3_meshProduct_80 : decode cX3_meshProduct 80 = .ok (.istore 10, 2) := by decide +kernel
theorem dX3_meshProduct_82 : decode cX3_meshProduct 82 = .ok (.lload_n 2, 1) := by decide +kernel
theorem dX3_meshProduct_83 : decode cX3_meshProduct 83 = .ok (.lload 5, 2) := by decide +kernel
theorem dX3_meshProduct_85 : decode cX3_meshProduct 85 = .ok (.iload 9, 2) := by decide +kernel
theorem dX3_meshProduct_87 : decode cX3_meshProduct 87 = .ok (.iload 10, 2) := by decide +kernel
theorem dX3_meshProduct_89 : decode cX3_meshProduct 89 = .ok (.isub, 1) := by decide +kernel
theorem dX3_meshProduct_90 : decode cX3_meshProduct 90 = .ok (.i2l, 1) := by decide +kernel
theorem dX3_meshProduct_91 : decode cX3_meshProduct 91 = .ok (.lmul, 1) := by decide +kernel
theorem dX3_meshProduct_92 : decode cX3_meshProduct 92 = .ok (.ladd, 1) := by decide +kernel
theorem dX3_meshProduct_93 : decode cX3_meshProduct 93 = .ok (.lstore_n 2, 1) := by decide +kernel
theorem dX3_meshProduct_94 : decode cX3_meshProduct 94 = .ok (.lload 5, 2) := by decide +kernel
theorem dX3_meshProduct_96 : decode cX3_meshProduct 96 = .ok (.aload_n 0, 1) := by decide +kernel
theorem dX3_meshProduct_97 : decode cX3_meshProduct 97 = .ok (.invokevirtual 45, 3) := by decide +kernel
theorem dX3_meshProduct_100 : decode cX3_meshProduct 100 = .ok (.i2l, 1) := by decide +kernel
theorem dX3_meshProduct_101 : decode cX3_meshProduct 101 = .ok (.lmul, 1) := by decide +kernel
theorem dX3_meshProduct_102 : decode cX3_meshProduct 102 = .ok (.lstore 5, 2) := by decide +kernel
theorem dX3_meshProduct_104 : decode cX3_meshProduct 104 = .ok (.iinc 7 1, 3) := by decide +kernel
theorem dX3_meshProduct_107 : decode cX3_meshProduct 107 = .ok (.goto (-86), 3) := by decide +kernel
theorem dX3_meshProduct_110 : decode cX3_meshProduct 110 = .ok (.iinc 4 1, 3) := by decide +kernel
theorem dX3_meshProduct_113 : decode cX3_meshProduct 113 = .ok (.goto (-108), 3) := by decide +kernel
theorem dX3_meshProduct_116 : decode cX3_meshProduct 116 = .ok (.lload_n 2, 1) := by decide +kernel
theorem dX3_meshProduct_117 : decode cX3_meshProduct 117 = .ok (.lreturn, 1) := by decide +kernel
theorem dX3_bitSum_0 : decode cX3_bitSum 0 = .ok (.iconst 0, 1) := by decide +kernel
theorem dX3_bitSum_1 : decode cX3_bitSum 1 = .ok (.istore_n 3, 1) := by decide +kernel
theorem dX3_bitSum_2 : decode cX3_bitSum 2 = .ok (.iconst 0, 1) := by decide +kernel
theorem dX3_bitSum_3 : decode cX3_bitSum 3 = .ok (.istore 4, 2) := by decide +kernel
theorem dX3_bitSum_5 : decode cX3_bitSum 5 = .ok (.iload 4, 2) := by decide +kernel
theorem dX3_bitSum_7 : decode cX3_bitSum 7 = .ok (.aload_n 0, 1) := by decide +kernel
theorem dX3_bitSum_8 : decode cX3_bitSum 8 = .ok (.getfield 31, 3) := by decide +kernel
theorem dX3_bitSum_11 : decode cX3_bitSum 11 = .ok (.if_icmp .ge 50, 3) := by decide +kernel
theorem dX3_bitSum_14 : decode cX3_bitSum 14 = .ok (.iload_n 3, 1) := by decide +kernel
theorem dX3_bitSum_15 : decode cX3_bitSum 15 = .ok (.aload_n 0, 1) := by decide +kernel
theorem dX3_bitSum_16 : decode cX3_bitSum 16 = .ok (.getfield 27, 3) := by decide +kernel
theorem dX3_bitSum_19 : decode cX3_bitSum 19 = .ok (.getfield 100, 3) := by decide +kernel
theorem dX3_bitSum_22 : decode cX3_bitSum 22 = .ok (.iload 4, 2) := by decide +kernel
theorem dX3_bitSum_24 : decode cX3_bitSum 24 = .ok (.iaload, 1) := by decide +kernel
theorem dX3_bitSum_25 : decode cX3_bitSum 25 = .ok (.iload_n 2, 1) := by decide +kernel
theorem dX3_bitSum_26 : decode cX3_bitSum 26 = .ok (.ishr, 1) := by decide +kernel
theorem dX3_bitSum_27 : decode cX3_bitSum 27 = .ok (.iconst 1, 1) := by decide +kernel
theorem dX3_bitSum_28 : decode cX3_bitSum 28 = .ok (.iand, 1) := by decide +kernel
theorem dX3_bitSum_29 : decode cX3_bitSum 29 = .ok (.aload_n 0, 1) := by decide +kernel
theorem dX3_bitSum_30 : decode cX3_bitSum 30 = .ok (.getfield 27, 3) := by decide +kernel
theorem dX3_bitSum_33 : decode cX3_bitSum 33 = .ok (.getfield 103, 3) := by decide +kernel
theorem dX3_bitSum_36 : decode cX3_bitSum 36 = .ok (.aload_n 0, 1) := by decide +kernel
theorem dX3_bitSum_37 : decode cX3_bitSum 37 = .ok (.getfield 27, 3) := by decide +kernel
theorem dX3_bitSum_40 : decode cX3_bitSum 40 = .ok (.aload_n 0, 1) := by decide +kernel
theorem dX3_bitSum_41 : decode cX3_bitSum 41 = .ok (.getfield 15, 3) := by decide +kernel
theorem dX3_bitSum_44 : decode cX3_bitSum 44 = .ok (.iload 4, 2) := by decide +kernel
theorem dX3_bitSum_46 : decode cX3_bitSum 46 = .ok (.iaload, 1) := by decide +kernel
theorem dX3_bitSum_47 : decode cX3_bitSum 47 = .ok (.iload_n 1, 1) := by decide +kernel
theorem dX3_bitSum_48 : decode cX3_bitSum 48 = .ok (.invokevirtual 83, 3) := by decide +kernel
theorem dX3_bitSum_51 : decode cX3_bitSum 51 = .ok (.iaload, 1) := by decide +kernel
theorem dX3_bitSum_52 : decode cX3_bitSum 52 = .ok (.imul, 1) := by decide +kernel
theorem dX3_bitSum_53 : decode cX3_bitSum 53 = .ok (.iadd, 1) := by decide +kernel
theorem dX3_bitSum_54 : decode cX3_bitSum 54 = .ok (.istore_n 3, 1) := by decide +kernel
theorem dX3_bitSum_55 : decode cX3_bitSum 55 = .ok (.iinc 4 1, 3) := by decide +kernel
theorem dX3_bitSum_58 : decode cX3_bitSum 58 = .ok (.goto (-53), 3) := by decide +kernel
theorem dX3_bitSum_61 : decode cX3_bitSum 61 = .ok (.iload_n 3, 1) := by decide +kernel
theorem dX3_bitSum_62 : decode cX3_bitSum 62 = .ok (.ireturn, 1) := by decide +kernel
theorem dX3_trueProduct_0 : decode cX3_trueProduct 0 = .ok (.lconst 0, 1) := by decide +kernel
theorem dX3_trueProduct_1 : decode cX3_trueProduct 1 = .ok (.lstore_n 2, 1) := by decide +kernel
theorem dX3_trueProduct_2 : decode cX3_trueProduct 2 = .ok (.iconst 0, 1) := by decide +kernel
theorem dX3_trueProduct_3 : decode cX3_trueProduct 3 = .ok (.istore 4, 2) := by decide +kernel
theorem dX3_trueProduct_5 : decode cX3_trueProduct 5 = .ok (.iload 4, 2) := by decide +kernel
theorem dX3_trueProduct_7 : decode cX3_trueProduct 7 = .ok (.aload_n 0, 1) := by decide +kernel
theorem dX3_trueProduct_8 : decode cX3_trueProduct 8 = .ok (.getfield 31, 3) := by decide +kernel
theorem dX3_trueProduct_11 : decode cX3_trueProduct 11 = .ok (.if_icmp .ge 32, 3) := by decide +kernel
theorem dX3_trueProduct_14 : decode cX3_trueProduct 14 = .ok (.lload_n 2, 1) := by decide +kernel
theorem dX3_trueProduct_15 : decode cX3_trueProduct 15 = .ok (.aload_n 0, 1) := by decide +kernel
theorem dX3_trueProduct_16 : decode cX3_trueProduct 16 = .ok (.getfield 27, 3) := by decide +kernel
theorem dX3_trueProduct_19 : decode cX3_trueProduct 19 = .ok (.getfield 100, 3) := by decide +kernel
theorem dX3_trueProduct_22 : decode cX3_trueProduct 22 = .ok (.iload 4, 2) := by decide +kernel
theorem dX3_trueProduct_24 : decode cX3_trueProduct 24 = .ok (.iaload, 1) := by decide +kernel
theorem dX3_trueProduct_25 : decode cX3_trueProduct 25 = .ok (.i2l, 1) := by decide +kernel
theorem dX3_trueProduct_26 : decode cX3_trueProduct 26 = .ok (.aload_n 0, 1) := by decide +kernel
theorem dX3_trueProduct_27 : decode cX3_trueProduct 27 = .ok (.iload 4, 2) := by decide +kernel
theorem dX3_trueProduct_29 : decode cX3_trueProduct 29 = .ok (.iload_n 1, 1) := by decide +kernel
theorem dX3_trueProduct_30 : decode cX3_trueProduct 30 = .ok (.invokevirtual 67, 3) := by decide +kernel
theorem dX3_trueProduct_33 : decode cX3_trueProduct 33 = .ok (.i2l, 1) := by decide +kernel
theorem dX3_trueProduct_34 : decode cX3_trueProduct 34 = .ok (.lmul, 1) := by decide +kernel
theorem dX3_trueProduct_35 : decode cX3_trueProduct 35 = .ok (.ladd, 1) := by decide +kernel
theorem dX3_trueProduct_36 : decode cX3_trueProduct 36 = .ok (.lstore_n 2, 1) := by decide +kernel
theorem dX3_trueProduct_37 : decode cX3_trueProduct 37 = .ok (.iinc 4 1, 3) := by decide +kernel
theorem dX3_trueProduct_40 : decode cX3_trueProduct 40 = .ok (.goto (-35), 3) := by decide +kernel
theorem dX3_trueProduct_43 : decode cX3_trueProduct 43 = .ok (.lload_n 2, 1) := by decide +kernel
theorem dX3_trueProduct_44 : decode cX3_trueProduct 44 = .ok (.lreturn, 1) := by decide +kernel
theorem dX3_bitsEnough_0 : decode cX3_bitsEnough 0 = .ok (.aload_n 0, 1) := by decide +kernel
theorem dX3_bitsEnough_1 : decode cX3_bitsEnough 1 = .ok (.getfield 31, 3) := by decide +kernel
theorem dX3_bitsEnough_4 : decode cX3_bitsEnough 4 = .ok (.aload_n 0, 1) := by decide +kernel
theorem dX3_bitsEnough_5 : decode cX3_bitsEnough 5 = .ok (.getfield 27, 3) := by decide +kernel
theorem dX3_bitsEnough_8 : decode cX3_bitsEnough 8 = .ok (.getfield 62, 3) := by decide +kernel
theorem dX3_bitsEnough_11 : decode cX3_bitsEnough 11 = .ok (.imul, 1) := by decide +kernel
theorem dX3_bitsEnough_12 : decode cX3_bitsEnough 12 = .ok (.istore_n 1, 1) := by decide +kernel
theorem dX3_bitsEnough_13 : decode cX3_bitsEnough 13 = .ok (.iconst 1, 1) := by decide +kernel
theorem dX3_bitsEnough_14 : decode cX3_bitsEnough 14 = .ok (.istore_n 2, 1) := by decide +kernel
theorem dX3_bitsEnough_15 : decode cX3_bitsEnough 15 = .ok (.iload_n 2, 1) := by decide +kernel
theorem dX3_bitsEnough_16 : decode cX3_bitsEnough 16 = .ok (.bipush 16, 2) := by decide +kernel
theorem dX3_bitsEnough_18 : decode cX3_bitsEnough 18 = .ok (.if_icmp .ge 18, 3) := by decide +kernel
theorem dX3_bitsEnough_21 : decode cX3_bitsEnough 21 = .ok (.iconst 1, 1) := by decide +kernel
theorem dX3_bitsEnough_22 : decode cX3_bitsEnough 22 = .ok (.iload_n 2, 1) := by decide +kernel
theorem dX3_bitsEnough_23 : decode cX3_bitsEnough 23 = .ok (.ishl, 1) := by decide +kernel
theorem dX3_bitsEnough_24 : decode cX3_bitsEnough 24 = .ok (.iconst 1, 1) := by decide +kernel
theorem dX3_bitsEnough_25 : decode cX3_bitsEnough 25 = .ok (.isub, 1) := by decide +kernel
theorem dX3_bitsEnough_26 : decode cX3_bitsEnough 26 = .ok (.iload_n 1, 1) := by decide +kernel
theorem dX3_bitsEnough_27 : decode cX3_bitsEnough 27 = .ok (.if_icmp .ge 9, 3) := by decide +kernel
theorem dX3_bitsEnough_30 : decode cX3_bitsEnough 30 = .ok (.iinc 2 1, 3) := by decide +kernel
theorem dX3_bitsEnough_33 : decode cX3_bitsEnough 33 = .ok (.goto (-18), 3) := by decide +kernel
theorem dX3_bitsEnough_36 : decode cX3_bitsEnough 36 = .ok (.iload_n 2, 1) := by decide +kernel
theorem dX3_bitsEnough_37 : decode cX3_bitsEnough 37 = .ok (.ireturn, 1) := by decide +kernel
theorem dX3_mapAnew_0 : decode cX3_mapAnew 0 = .ok (.aload_n 0, 1) := by decide +kernel
theorem dX3_mapAnew_1 : decode cX3_mapAnew 1 = .ok (.invokevirtual 106, 3) := by decide +kernel
theorem dX3_mapAnew_4 : decode cX3_mapAnew 4 = .ok (.iconst 1, 1) := by decide +kernel
theorem dX3_mapAnew_5 : decode cX3_mapAnew 5 = .ok (.aload_n 0, 1) := by decide +kernel
theorem dX3_mapAnew_6 : decode cX3_mapAnew 6 = .ok (.getfield 27, 3) := by decide +kernel
theorem dX3_mapAnew_9 : decode cX3_mapAnew 9 = .ok (.getfield 109, 3) := by decide +kernel
theorem dX3_mapAnew_12 : decode cX3_mapAnew 12 = .ok (.ishl, 1) := by decide +kernel
theorem dX3_mapAnew_13 : decode cX3_mapAnew 13 = .ok (.iconst 1, 1) := by decide +kernel
theorem dX3_mapAnew_14 : decode cX3_mapAnew 14 = .ok (.isub, 1) := by decide +kernel
theorem dX3_mapAnew_15 : decode cX3_mapAnew 15 = .ok (.istore_n 1, 1) := by decide +kernel
theorem dX3_mapAnew_16 : decode cX3_mapAnew 16 = .ok (.iload_n 1, 1) := by decide +kernel
theorem dX3_mapAnew_17 : decode cX3_mapAnew 17 = .ok (.ifCond .lt 38, 3) := by decide +kernel
theorem dX3_mapAnew_20 : decode cX3_mapAnew 20 = .ok (.iload_n 1, 1) := by decide +kernel
theorem dX3_mapAnew_21 : decode cX3_mapAnew 21 = .ok (.invokestatic 112, 3) := by decide +kernel
theorem dX3_mapAnew_24 : decode cX3_mapAnew 24 = .ok (.istore_n 2, 1) := by decide +kernel
theorem dX3_mapAnew_25 : decode cX3_mapAnew 25 = .ok (.aload_n 0, 1) := by decide +kernel
theorem dX3_mapAnew_26 : decode cX3_mapAnew 26 = .ok (.getfield 24, 3) := by decide +kernel
theorem dX3_mapAnew_29 : decode cX3_mapAnew 29 = .ok (.iload_n 1, 1) := by decide +kernel
theorem dX3_mapAnew_30 : decode cX3_mapAnew 30 = .ok (.iload_n 2, 1) := by decide +kernel
theorem dX3_mapAnew_31 : decode cX3_mapAnew 31 = .ok (.aload_n 0, 1) := by decide +kernel
theorem dX3_mapAnew_32 : decode cX3_mapAnew 32 = .ok (.getfield 31, 3) := by decide +kernel
theorem dX3_mapAnew_35 : decode cX3_mapAnew 35 = .ok (.if_icmp .ge 12, 3) := by decide +kernel
theorem dX3_mapAnew_38 : decode cX3_mapAnew 38 = .ok (.aload_n 0, 1) := by decide +kernel
theorem dX3_mapAnew_39 : decode cX3_mapAnew 39 = .ok (.iload_n 2, 1) := by decide +kernel
theorem dX3_mapAnew_40 : decode cX3_mapAnew 40 = .ok (.iload_n 1, 1) := by decide +kernel
theorem dX3_mapAnew_41 : decode cX3_mapAnew 41 = .ok (.invokevirtual 117, 3) := by decide +kernel
theorem dX3_mapAnew_44 : decode cX3_mapAnew 44 = .ok (.goto 4, 3) := by decide +kernel
theorem dX3_mapAnew_47 : decode cX3_mapAnew 47 = .ok (.iconst 0, 1) := by decide +kernel
theorem dX3_mapAnew_48 : decode cX3_mapAnew 48 = .ok (.iastore, 1) := by decide +kernel
theorem dX3_mapAnew_49 : decode cX3_mapAnew 49 = .ok (.iinc 1 (-1), 3) := by decide +kernel
theorem dX3_mapAnew_52 : decode cX3_mapAnew 52 = .ok (.goto (-36), 3) := by decide +kernel
theorem dX3_mapAnew_55 : decode cX3_mapAnew 55 = .ok (.aload_n 0, 1) := by decide +kernel
theorem dX3_mapAnew_56 : decode cX3_mapAnew 56 = .ok (.invokevirtual 120, 3) := by decide +kernel
theorem dX3_mapAnew_59 : decode cX3_mapAnew 59 = .ok (.aload_n 0, 1) := by decide +kernel
theorem dX3_mapAnew_60 : decode cX3_mapAnew 60 = .ok (.getfield 24, 3) := by decide +kernel
theorem dX3_mapAnew_63 : decode cX3_mapAnew 63 = .ok (.iconst 0, 1) := by decide +kernel
theorem dX3_mapAnew_64 : decode cX3_mapAnew 64 = .ok (.iaload, 1) := by decide +kernel
theorem dX3_mapAnew_65 : decode cX3_mapAnew 65 = .ok (.ireturn, 1) := by decide +kernel
theorem dX3_fillCosts_0 : decode cX3_fillCosts 0 = .ok (.iconst 0, 1) := by decide +kernel
theorem dX3_fillCosts_1 : decode cX3_fillCosts 1 = .ok (.istore_n 1, 1) := by decide +kernel
theorem dX3_fillCosts_2 : decode cX3_fillCosts 2 = .ok (.iload_n 1, 1) := by decide +kernel
theorem dX3_fillCosts_3 : decode cX3_fillCosts 3 = .ok (.aload_n 0, 1) := by decide +kernel
theorem dX3_fillCosts_4 : decode cX3_fillCosts 4 = .ok (.getfield 31, 3) := by decide +kernel
theorem dX3_fillCosts_7 : decode cX3_fillCosts 7 = .ok (.if_icmp .ge 49, 3) := by decide +kernel
theorem dX3_fillCosts_10 : decode cX3_fillCosts 10 = .ok (.aload_n 0, 1) := by decide +kernel
theorem dX3_fillCosts_11 : decode cX3_fillCosts 11 = .ok (.iload_n 1, 1) := by decide +kernel
theorem dX3_fillCosts_12 : decode cX3_fillCosts 12 = .ok (.invokevirtual 76, 3) := by decide +kernel
theorem dX3_fillCosts_15 : decode cX3_fillCosts 15 = .ok (.iconst 0, 1) := by decide +kernel
theorem dX3_fillCosts_16 : decode cX3_fillCosts 16 = .ok (.istore_n 2, 1) := by decide +kernel
theorem dX3_fillCosts_17 : decode cX3_fillCosts 17 = .ok (.iload_n 2, 1) := by decide +kernel
theorem dX3_fillCosts_18 : decode cX3_fillCosts 18 = .ok (.aload_n 0, 1) := by decide +kernel
theorem dX3_fillCosts_19 : decode cX3_fillCosts 19 = .ok (.getfield 27, 3) := by decide +kernel
theorem dX3_fillCosts_22 : decode cX3_fillCosts 22 = .ok (.getfield 109, 3) := by decide +kernel
theorem dX3_fillCosts_25 : decode cX3_fillCosts 25 = .ok (.if_icmp .ge 25, 3) := by decide +kernel
theorem dX3_fillCosts_28 : decode cX3_fillCosts 28 = .ok (.aload_n 0, 1) := by decide +kernel
theorem dX3_fillCosts_29 : decode cX3_fillCosts 29 = .ok (.getfield 21, 3) := by decide +kernel
theorem dX3_fillCosts_32 : decode cX3_fillCosts 32 = .ok (.iload_n 1, 1) := by decide +kernel
theorem dX3_fillCosts_33 : decode cX3_fillCosts 33 = .ok (.bipush 8, 2) := by decide +kernel
theorem dX3_fillCosts_35 : decode cX3_fillCosts 35 = .ok (.imul, 1) := by decide +kernel
theorem dX3_fillCosts_36 : decode cX3_fillCosts 36 = .ok (.iload_n 2, 1) := by decide +kernel
theorem dX3_fillCosts_37 : decode cX3_fillCosts 37 = .ok (.iadd, 1) := by decide +kernel
theorem dX3_fillCosts_38 : decode cX3_fillCosts 38 = .ok (.aload_n 0, 1) := by decide +kernel
theorem dX3_fillCosts_39 : decode cX3_fillCosts 39 = .ok (.iload_n 2, 1) := by decide +kernel
theorem dX3_fillCosts_40 : decode cX3_fillCosts 40 = .ok (.invokevirtual 123, 3) := by decide +kernel
theorem dX3_fillCosts_43 : decode cX3_fillCosts 43 = .ok (.iastore, 1) := by decide +kernel
theorem dX3_fillCosts_44 : decode cX3_fillCosts 44 = .ok (.iinc 2 1, 3) := by decide +kernel
theorem dX3_fillCosts_47 : decode cX3_fillCosts 47 = .ok (.goto (-30), 3) := by decide +kernel
theorem dX3_fillCosts_50 : decode cX3_fillCosts 50 = .ok (.iinc 1 1, 3) := by decide +kernel
theorem dX3_fillCosts_53 : decode cX3_fillCosts 53 = .ok (.goto (-51), 3) := by decide +kernel
theorem dX3_fillCosts_56 : decode cX3_fillCosts 56 = .ok (.return_, 1) := by decide +kernel
theorem dX3_costOn_0 : decode cX3_costOn 0 = .ok (.iconst 0, 1) := by decide +kernel
theorem dX3_costOn_1 : decode cX3_costOn 1 = .ok (.istore_n 2, 1) := by decide +kernel
theorem dX3_costOn_2 : decode cX3_costOn 2 = .ok (.iconst 0, 1) := by decide +kernel
theorem dX3_costOn_3 : decode cX3_costOn 3 = .ok (.istore_n 3, 1) := by decide +kernel
theorem dX3_costOn_4 : decode cX3_costOn 4 = .ok (.iload_n 3, 1) := by decide +kernel
theorem dX3_costOn_5 : decode cX3_costOn 5 = .ok (.aload_n 0, 1) := by decide +kernel
theorem dX3_costOn_6 : decode cX3_costOn 6 = .ok (.invokevirtual 80, 3) := by decide +kernel
theorem dX3_costOn_9 : decode cX3_costOn 9 = .ok (.if_icmp .ge 55, 3) := by decide +kernel
theorem dX3_costOn_12 : decode cX3_costOn 12 = .ok (.aload_n 0, 1) := by decide +kernel
theorem dX3_costOn_13 : decode cX3_costOn 13 = .ok (.getfield 27, 3) := by decide +kernel
theorem dX3_costOn_16 : decode cX3_costOn 16 = .ok (.iload_n 1, 1) := by decide +kernel
theorem dX3_costOn_17 : decode cX3_costOn 17 = .ok (.iload_n 3, 1) := by decide +kernel
theorem dX3_costOn_18 : decode cX3_costOn 18 = .ok (.invokevirtual 83, 3) := by decide +kernel
theorem dX3_costOn_21 : decode cX3_costOn 21 = .ok (.istore 4, 2) := by decide +kernel
theorem dX3_costOn_23 : decode cX3_costOn 23 = .ok (.aload_n 0, 1) := by decide +kernel
theorem dX3_costOn_24 : decode cX3_costOn 24 = .ok (.getfield 27, 3) := by decide +kernel
theorem dX3_costOn_27 : decode cX3_costOn 27 = .ok (.iload 4, 2) := by decide +kernel
theorem dX3_costOn_29 : decode cX3_costOn 29 = .ok (.invokevirtual 126, 3) := by decide +kernel
theorem dX3_costOn_32 : decode cX3_costOn 32 = .ok (.ifCond .eq 26, 3) := by decide +kernel
theorem dX3_costOn_35 : decode cX3_costOn 35 = .ok (.iload_n 2, 1) := by decide +kernel
theorem dX3_costOn_36 : decode cX3_costOn 36 = .ok (.aload_n 0, 1) := by decide +kernel
theorem dX3_costOn_37 : decode cX3_costOn 37 = .ok (.getfield 27, 3) := by decide +kernel
theorem dX3_costOn_40 : decode cX3_costOn 40 = .ok (.getfield 130, 3) := by decide +kernel
theorem dX3_costOn_43 : decode cX3_costOn 43 = .ok (.iload 4, 2) := by decide +kernel
theorem dX3_costOn_45 : decode cX3_costOn 45 = .ok (.iaload, 1) := by decide +kernel
theorem dX3_costOn_46 : decode cX3_costOn 46 = .ok (.aload_n 0, 1) := by decide +kernel
theorem dX3_costOn_47 : decode cX3_costOn 47 = .ok (.getfield 18, 3) := by decide +kernel
theorem dX3_costOn_50 : decode cX3_costOn 50 = .ok (.iload_n 3, 1) := by decide +kernel
theorem dX3_costOn_51 : decode cX3_costOn 51 = .ok (.iaload, 1) := by decide +kernel
theorem dX3_costOn_52 : decode cX3_costOn 52 = .ok (.isub, 1) := by decide +kernel
theorem dX3_costOn_53 : decode cX3_costOn 53 = .ok (.invokestatic 70, 3) := by decide +kernel
theorem dX3_costOn_56 : decode cX3_costOn 56 = .ok (.iadd, 1) := by decide +kernel
theorem dX3_costOn_57 : decode cX3_costOn 57 = .ok (.istore_n 2, 1) := by decide +kernel
theorem dX3_costOn_58 : decode cX3_costOn 58 = .ok (.iinc 3 1, 3) := by decide +kernel
theorem dX3_costOn_61 : decode cX3_costOn 61 = .ok (.goto (-57), 3) := by decide +kernel
theorem dX3_costOn_64 : decode cX3_costOn 64 = .ok (.iload_n 2, 1) := by decide +kernel
theorem dX3_costOn_65 : decode cX3_costOn 65 = .ok (.ireturn, 1) := by decide +kernel
theorem dX3_costWith_0 : decode cX3_costWith 0 = .ok (.aload_n 0, 1) := by decide +kernel
theorem dX3_costWith_1 : decode cX3_costWith 1 = .ok (.getfield 21, 3) := by decide +kernel
theorem dX3_costWith_4 : decode cX3_costWith 4 = .ok (.iload_n 1, 1) := by decide +kernel
theorem dX3_costWith_5 : decode cX3_costWith 5 = .ok (.bipush 8, 2) := by decide +kernel
theorem dX3_costWith_7 : decode cX3_costWith 7 = .ok (.imul, 1) := by decide +kernel
theorem dX3_costWith_8 : decode cX3_costWith 8 = .ok (.iload_n 3, 1) := by decide +kernel
theorem dX3_costWith_9 : decode cX3_costWith 9 = .ok (.iadd, 1) := by decide +kernel
theorem dX3_costWith_10 : decode cX3_costWith 10 = .ok (.iaload, 1) := by decide +kernel
theorem dX3_costWith_11 : decode cX3_costWith 11 = .ok (.aload_n 0, 1) := by decide +kernel
theorem dX3_costWith_12 : decode cX3_costWith 12 = .ok (.getfield 24, 3) := by decide +kernel
theorem dX3_costWith_15 : decode cX3_costWith 15 = .ok (.iload_n 2, 1) := by decide +kernel
theorem dX3_costWith_16 : decode cX3_costWith 16 = .ok (.iconst 1, 1) := by decide +kernel
theorem dX3_costWith_17 : decode cX3_costWith 17 = .ok (.iload_n 3, 1) := by decide +kernel
theorem dX3_costWith_18 : decode cX3_costWith 18 = .ok (.ishl, 1) := by decide +kernel
theorem dX3_costWith_19 : decode cX3_costWith 19 = .ok (.ior, 1) := by decide +kernel
theorem dX3_costWith_20 : decode cX3_costWith 20 = .ok (.iaload, 1) := by decide +kernel
theorem dX3_costWith_21 : decode cX3_costWith 21 = .ok (.iadd, 1) := by decide +kernel
theorem dX3_costWith_22 : decode cX3_costWith 22 = .ok (.ireturn, 1) := by decide +kernel
theorem dX3_leastFrom_0 : decode cX3_leastFrom 0 = .ok (.ldc 133, 2) := by decide +kernel
theorem dX3_leastFrom_2 : decode cX3_leastFrom 2 = .ok (.istore_n 3, 1) := by decide +kernel
theorem dX3_leastFrom_3 : decode cX3_leastFrom 3 = .ok (.iconst 0, 1) := by decide +kernel
theorem dX3_leastFrom_4 : decode cX3_leastFrom 4 = .ok (.istore 4, 2) := by decide +kernel
theorem dX3_leastFrom_6 : decode cX3_leastFrom 6 = .ok (.iload 4, 2) := by decide +kernel
theorem dX3_leastFrom_8 : decode cX3_leastFrom 8 = .ok (.aload_n 0, 1) := by decide +kernel
theorem dX3_leastFrom_9 : decode cX3_leastFrom 9 = .ok (.getfield 27, 3) := by decide +kernel
theorem dX3_leastFrom_12 : decode cX3_leastFrom 12 = .ok (.getfield 109, 3) := by decide +kernel
theorem dX3_leastFrom_15 : decode cX3_leastFrom 15 = .ok (.if_icmp .ge 31, 3) := by decide +kernel
theorem dX3_leastFrom_18 : decode cX3_leastFrom 18 = .ok (.iload_n 2, 1) := by decide +kernel
theorem dX3_leastFrom_19 : decode cX3_leastFrom 19 = .ok (.iload 4, 2) := by decide +kernel
theorem dX3_leastFrom_21 : decode cX3_leastFrom 21 = .ok (.ishr, 1) := by decide +kernel
theorem dX3_leastFrom_22 : decode cX3_leastFrom 22 = .ok (.iconst 1, 1) := by decide +kernel
theorem dX3_leastFrom_23 : decode cX3_leastFrom 23 = .ok (.iand, 1) := by decide +kernel
theorem dX3_leastFrom_24 : decode cX3_leastFrom 24 = .ok (.ifCond .ne 16, 3) := by decide +kernel
theorem dX3_leastFrom_27 : decode cX3_leastFrom 27 = .ok (.iload_n 3, 1) := by decide +kernel
theorem dX3_leastFrom_28 : decode cX3_leastFrom 28 = .ok (.aload_n 0, 1) := by decide +kernel
theorem dX3_leastFrom_29 : decode cX3_leastFrom 29 = .ok (.iload_n 1, 1) := by decide +kernel
theorem dX3_leastFrom_30 : decode cX3_leastFrom 30 = .ok (.iload_n 2, 1) := by decide +kernel
theorem dX3_leastFrom_31 : decode cX3_leastFrom 31 = .ok (.iload 4, 2) := by decide +kernel
theorem dX3_leastFrom_33 : decode cX3_leastFrom 33 = .ok (.invokevirtual 134, 3) := by decide +kernel
theorem dX3_leastFrom_36 : decode cX3_leastFrom 36 = .ok (.invokestatic 138, 3) := by decide +kernel
theorem dX3_leastFrom_39 : decode cX3_leastFrom 39 = .ok (.istore_n 3, 1) := by decide +kernel
theorem dX3_leastFrom_40 : decode cX3_leastFrom 40 = .ok (.iinc 4 1, 3) := by decide +kernel
theorem dX3_leastFrom_43 : decode cX3_leastFrom 43 = .ok (.goto (-37), 3) := by decide +kernel
theorem dX3_leastFrom_46 : decode cX3_leastFrom 46 = .ok (.iload_n 3, 1) := by decide +kernel
theorem dX3_leastFrom_47 : decode cX3_leastFrom 47 = .ok (.ireturn, 1) := by decide +kernel
theorem dX3_chooseFirstLeast_0 : decode cX3_chooseFirstLeast 0 = .ok (.iconst 0, 1) := by decide +kernel
theorem dX3_chooseFirstLeast_1 : decode cX3_chooseFirstLeast 1 = .ok (.istore_n 1, 1) := by decide +kernel
theorem dX3_chooseFirstLeast_2 : decode cX3_chooseFirstLeast 2 = .ok (.iconst 0, 1) := by decide +kernel
theorem dX3_chooseFirstLeast_3 : decode cX3_chooseFirstLeast 3 = .ok (.istore_n 2, 1) := by decide +kernel
theorem dX3_chooseFirstLeast_4 : decode cX3_chooseFirstLeast 4 = .ok (.iload_n 2, 1) := by decide +kernel
theorem dX3_chooseFirstLeast_5 : decode cX3_chooseFirstLeast 5 = .ok (.aload_n 0, 1) := by decide +kernel
theorem dX3_chooseFirstLeast_6 : decode cX3_chooseFirstLeast 6 = .ok (.getfield 31, 3) := by decide +kernel
theorem dX3_chooseFirstLeast_9 : decode cX3_chooseFirstLeast 9 = .ok (.if_icmp .ge 32, 3) := by decide +kernel
theorem dX3_chooseFirstLeast_12 : decode cX3_chooseFirstLeast 12 = .ok (.aload_n 0, 1) := by decide +kernel
theorem dX3_chooseFirstLeast_13 : decode cX3_chooseFirstLeast 13 = .ok (.getfield 15, 3) := by decide +kernel
theorem dX3_chooseFirstLeast_16 : decode cX3_chooseFirstLeast 16 = .ok (.iload_n 2, 1) := by decide +kernel
theorem dX3_chooseFirstLeast_17 : decode cX3_chooseFirstLeast 17 = .ok (.aload_n 0, 1) := by decide +kernel
theorem dX3_chooseFirstLeast_18 : decode cX3_chooseFirstLeast 18 = .ok (.iload_n 2, 1) := by decide +kernel
theorem dX3_chooseFirstLeast_19 : decode cX3_chooseFirstLeast 19 = .ok (.iload_n 1, 1) := by decide +kernel
theorem dX3_chooseFirstLeast_20 : decode cX3_chooseFirstLeast 20 = .ok (.invokevirtual 141, 3) := by decide +kernel
theorem dX3_chooseFirstLeast_23 : decode cX3_chooseFirstLeast 23 = .ok (.iastore, 1) := by decide +kernel
theorem dX3_chooseFirstLeast_24 : decode cX3_chooseFirstLeast 24 = .ok (.iload_n 1, 1) := by decide +kernel
theorem dX3_chooseFirstLeast_25 : decode cX3_chooseFirstLeast 25 = .ok (.iconst 1, 1) := by decide +kernel
theorem dX3_chooseFirstLeast_26 : decode cX3_chooseFirstLeast 26 = .ok (.aload_n 0, 1) := by decide +kernel
theorem dX3_chooseFirstLeast_27 : decode cX3_chooseFirstLeast 27 = .ok (.getfield 15, 3) := by decide +kernel
theorem dX3_chooseFirstLeast_30 : decode cX3_chooseFirstLeast 30 = .ok (.iload_n 2, 1) := by decide +kernel
theorem dX3_chooseFirstLeast_31 : decode cX3_chooseFirstLeast 31 = .ok (.iaload, 1) := by decide +kernel
theorem dX3_chooseFirstLeast_32 : decode cX3_chooseFirstLeast 32 = .ok (.ishl, 1) := by decide +kernel
theorem dX3_chooseFirstLeast_33 : decode cX3_chooseFirstLeast 33 = .ok (.ior, 1) := by decide +kernel
theorem dX3_chooseFirstLeast_34 : decode cX3_chooseFirstLeast 34 = .ok (.istore_n 1, 1) := by decide +kernel
theorem dX3_chooseFirstLeast_35 : decode cX3_chooseFirstLeast 35 = .ok (.iinc 2 1, 3) := by decide +kernel
theorem dX3_chooseFirstLeast_38 : decode cX3_chooseFirstLeast 38 = .ok (.goto (-34), 3) := by decide +kernel
theorem dX3_chooseFirstLeast_41 : decode cX3_chooseFirstLeast 41 = .ok (.return_, 1) := by decide +kernel
theorem dX3_firstLeastRow_0 : decode cX3_firstLeastRow 0 = .ok (.iconst 0, 1) := by decide +kernel
theorem dX3_firstLeastRow_1 : decode cX3_firstLeastRow 1 = .ok (.istore_n 3, 1) := by decide +kernel
theorem dX3_firstLeastRow_2 : decode cX3_firstLeastRow 2 = .ok (.iload_n 3, 1) := by decide +kernel
theorem dX3_firstLeastRow_3 : decode cX3_firstLeastRow 3 = .ok (.aload_n 0, 1) := by decide +kernel
theorem dX3_firstLeastRow_4 : decode cX3_firstLeastRow 4 = .ok (.getfield 27, 3) := by decide +kernel
theorem dX3_firstLeastRow_7 : decode cX3_firstLeastRow 7 = .ok (.getfield 109, 3) := by decide +kernel
theorem dX3_firstLeastRow_10 : decode cX3_firstLeastRow 10 = .ok (.iconst 1, 1) := by decide +kernel
theorem dX3_firstLeastRow_11 : decode cX3_firstLeastRow 11 = .ok (.isub, 1) := by decide +kernel
theorem dX3_firstLeastRow_12 : decode cX3_firstLeastRow 12 = .ok (.if_icmp .ge 34, 3) := by decide +kernel
theorem dX3_firstLeastRow_15 : decode cX3_firstLeastRow 15 = .ok (.iload_n 2, 1) := by decide +kernel
theorem dX3_firstLeastRow_16 : decode cX3_firstLeastRow 16 = .ok (.iload_n 3, 1) := by decide +kernel
theorem dX3_firstLeastRow_17 : decode cX3_firstLeastRow 17 = .ok (.ishr, 1) := by decide +kernel
theorem dX3_firstLeastRow_18 : decode cX3_firstLeastRow 18 = .ok (.iconst 1, 1) := by decide +kernel
theorem dX3_firstLeastRow_19 : decode cX3_firstLeastRow 19 = .ok (.iand, 1) := by decide +kernel
theorem dX3_firstLeastRow_20 : decode cX3_firstLeastRow 20 = .ok (.iconst 1, 1) := by decide +kernel
theorem dX3_firstLeastRow_21 : decode cX3_firstLeastRow 21 = .ok (.if_icmp .eq 19, 3) := by decide +kernel
theorem dX3_firstLeastRow_24 : decode cX3_firstLeastRow 24 = .ok (.aload_n 0, 1) := by decide +kernel
theorem dX3_firstLeastRow_25 : decode cX3_firstLeastRow 25 = .ok (.iload_n 1, 1) := by decide +kernel
theorem dX3_firstLeastRow_26 : decode cX3_firstLeastRow 26 = .ok (.iload_n 2, 1) := by decide +kernel
theorem dX3_firstLeastRow_27 : decode cX3_firstLeastRow 27 = .ok (.iload_n 3, 1) := by decide +kernel
theorem dX3_firstLeastRow_28 : decode cX3_firstLeastRow 28 = .ok (.invokevirtual 134, 3) := by decide +kernel
theorem dX3_firstLeastRow_31 : decode cX3_firstLeastRow 31 = .ok (.aload_n 0, 1) := by decide +kernel
theorem dX3_firstLeastRow_32 : decode cX3_firstLeastRow 32 = .ok (.getfield 24, 3) := by decide +kernel
theorem dX3_firstLeastRow_35 : decode cX3_firstLeastRow 35 = .ok (.iload_n 2, 1) := by decide +kernel
theorem dX3_firstLeastRow_36 : decode cX3_firstLeastRow 36 = .ok (.iaload, 1) := by decide +kernel
theorem dX3_firstLeastRow_37 : decode cX3_firstLeastRow 37 = .ok (.if_icmp .eq 9, 3) := by decide +kernel
theorem dX3_firstLeastRow_40 : decode cX3_firstLeastRow 40 = .ok (.iinc 3 1, 3) := by decide +kernel
theorem dX3_firstLeastRow_43 : decode cX3_firstLeastRow 43 = .ok (.goto (-41), 3) := by decide +kernel
theorem dX3_firstLeastRow_46 : decode cX3_firstLeastRow 46 = .ok (.iload_n 3, 1) := by decide +kernel
theorem dX3_firstLeastRow_47 : decode cX3_firstLeastRow 47 = .ok (.ireturn, 1) := by decide +kernel
theorem dX3_addTo_0 : decode cX3_addTo 0 = .ok (.lload_n 1, 1) := by decide +kernel
theorem dX3_addTo_1 : decode cX3_addTo 1 = .ok (.lstore_n 3, 1) := by decide +kernel
theorem dX3_addTo_2 : decode cX3_addTo 2 = .ok (.iconst 0, 1) := by decide +kernel
theorem dX3_addTo_3 : decode cX3_addTo 3 = .ok (.istore 5, 2) := by decide +kernel
theorem dX3_addTo_5 : decode cX3_addTo 5 = .ok (.iload 5, 2) := by decide +kernel
theorem dX3_addTo_7 : decode cX3_addTo 7 = .ok (.aload_n 0, 1) := by decide +kernel
theorem dX3_addTo_8 : decode cX3_addTo 8 = .ok (.getfield 31, 3) := by decide +kernel
theorem dX3_addTo_11 : decode cX3_addTo 11 = .ok (.if_icmp .ge 58, 3) := by decide +kernel
theorem dX3_addTo_14 : decode cX3_addTo 14 = .ok (.ldc2_w 144, 3) := by decide +kernel
theorem dX3_addTo_17 : decode cX3_addTo 17 = .ok (.lload_n 3, 1) := by decide +kernel
theorem dX3_addTo_18 : decode cX3_addTo 18 = .ok (.lmul, 1) := by decide +kernel
theorem dX3_addTo_19 : decode cX3_addTo 19 = .ok (.aload_n 0, 1) := by decide +kernel
theorem dX3_addTo_20 : decode cX3_addTo 20 = .ok (.getfield 15, 3) := by decide +kernel
theorem dX3_addTo_23 : decode cX3_addTo 23 = .ok (.iload 5, 2) := by decide +kernel
theorem dX3_addTo_25 : decode cX3_addTo 25 = .ok (.iaload, 1) := by decide +kernel
theorem dX3_addTo_26 : decode cX3_addTo 26 = .ok (.i2l, 1) := by decide +kernel
theorem dX3_addTo_27 : decode cX3_addTo 27 = .ok (.ladd, 1) := by decide +kernel
theorem dX3_addTo_28 : decode cX3_addTo 28 = .ok (.lstore_n 3, 1) := by decide +kernel
theorem dX3_addTo_29 : decode cX3_addTo 29 = .ok (.iconst 0, 1) := by decide +kernel
theorem dX3_addTo_30 : decode cX3_addTo 30 = .ok (.istore 6, 2) := by decide +kernel
theorem dX3_addTo_32 : decode cX3_addTo 32 = .ok (.iload 6, 2) := by decide +kernel
theorem dX3_addTo_34 : decode cX3_addTo 34 = .ok (.aload_n 0, 1) := by decide +kernel
theorem dX3_addTo_35 : decode cX3_addTo 35 = .ok (.getfield 35, 3) := by decide +kernel
theorem dX3_addTo_38 : decode cX3_addTo 38 = .ok (.if_icmp .ge 25, 3) := by decide +kernel
theorem dX3_addTo_41 : decode cX3_addTo 41 = .ok (.ldc2_w 144, 3) := by decide +kernel
theorem dX3_addTo_44 : decode cX3_addTo 44 = .ok (.lload_n 3, 1) := by decide +kernel
theorem dX3_addTo_45 : decode cX3_addTo 45 = .ok (.lmul, 1) := by decide +kernel
theorem dX3_addTo_46 : decode cX3_addTo 46 = .ok (.aload_n 0, 1) := by decide +kernel
theorem dX3_addTo_47 : decode cX3_addTo 47 = .ok (.iload 5, 2) := by decide +kernel
theorem dX3_addTo_49 : decode cX3_addTo 49 = .ok (.iload 6, 2) := by decide +kernel
theorem dX3_addTo_51 : decode cX3_addTo 51 = .ok (.invokevirtual 67, 3) := by decide +kernel
theorem dX3_addTo_54 : decode cX3_addTo 54 = .ok (.i2l, 1) := by decide +kernel
theorem dX3_addTo_55 : decode cX3_addTo 55 = .ok (.ladd, 1) := by decide +kernel
theorem dX3_addTo_56 : decode cX3_addTo 56 = .ok (.lstore_n 3, 1) := by decide +kernel
theorem dX3_addTo_57 : decode cX3_addTo 57 = .ok (.iinc 6 1, 3) := by decide +kernel
theorem dX3_addTo_60 : decode cX3_addTo 60 = .ok (.goto (-28), 3) := by decide +kernel
theorem dX3_addTo_63 : decode cX3_addTo 63 = .ok (.iinc 5 1, 3) := by decide +kernel
theorem dX3_addTo_66 : decode cX3_addTo 66 = .ok (.goto (-61), 3) := by decide +kernel
theorem dX3_addTo_69 : decode cX3_addTo 69 = .ok (.lload_n 3, 1) := by decide +kernel
theorem dX3_addTo_70 : decode cX3_addTo 70 = .ok (.lreturn, 1) := by decide +kernel
theorem dX4_init_0 : decode cX4_init 0 = .ok (.aload_n 0, 1) := by decide +kernel
theorem dX4_init_1 : decode cX4_init 1 = .ok (.invokespecial 1, 3) := by decide +kernel
theorem dX4_init_4 : decode cX4_init 4 = .ok (.aload_n 0, 1) := by decide +kernel
theorem dX4_init_5 : decode cX4_init 5 = .ok (.new 7, 3) := by decide +kernel
theorem dX4_init_8 : decode cX4_init 8 = .ok (.dup, 1) := by decide +kernel
theorem dX4_init_9 : decode cX4_init 9 = .ok (.invokespecial 9, 3) := by decide +kernel
theorem dX4_init_12 : decode cX4_init 12 = .ok (.putfield 10, 3) := by decide +kernel
theorem dX4_init_15 : decode cX4_init 15 = .ok (.aload_n 0, 1) := by decide +kernel
theorem dX4_init_16 : decode cX4_init 16 = .ok (.new 16, 3) := by decide +kernel
theorem dX4_init_19 : decode cX4_init 19 = .ok (.dup, 1) := by decide +kernel
theorem dX4_init_20 : decode cX4_init 20 = .ok (.aload_n 0, 1) := by decide +kernel
theorem dX4_init_21 : decode cX4_init 21 = .ok (.getfield 10, 3) := by decide +kernel
theorem dX4_init_24 : decode cX4_init 24 = .ok (.invokespecial 18, 3) := by decide +kernel
theorem dX4_init_27 : decode cX4_init 27 = .ok (.putfield 21, 3) := by decide +kernel
theorem dX4_init_30 : decode cX4_init 30 = .ok (.aload_n 0, 1) := by decide +kernel
theorem dX4_init_31 : decode cX4_init 31 = .ok (.new 25, 3) := by decide +kernel
theorem dX4_init_34 : decode cX4_init 34 = .ok (.dup, 1) := by decide +kernel
theorem dX4_init_35 : decode cX4_init 35 = .ok (.aload_n 0, 1) := by decide +kernel
theorem dX4_init_36 : decode cX4_init 36 = .ok (.getfield 10, 3) := by decide +kernel
theorem dX4_init_39 : decode cX4_init 39 = .ok (.invokespecial 27, 3) := by decide +kernel
theorem dX4_init_42 : decode cX4_init 42 = .ok (.putfield 28, 3) := by decide +kernel
theorem dX4_init_45 : decode cX4_init 45 = .ok (.aload_n 0, 1) := by decide +kernel
theorem dX4_init_46 : decode cX4_init 46 = .ok (.new 32, 3) := by decide +kernel
theorem dX4_init_49 : decode cX4_init 49 = .ok (.dup, 1) := by decide +kernel
theorem dX4_init_50 : decode cX4_init 50 = .ok (.invokespecial 34, 3) := by decide +kernel
theorem dX4_init_53 : decode cX4_init 53 = .ok (.putfield 35, 3) := by decide +kernel
theorem dX4_init_56 : decode cX4_init 56 = .ok (.return_, 1) := by decide +kernel
theorem dX4_mesh_0 : decode cX4_mesh 0 = .ok (.iload_n 1, 1) := by decide +kernel
theorem dX4_mesh_1 : decode cX4_mesh 1 = .ok (.iconst 1, 1) := by decide +kernel
theorem dX4_mesh_2 : decode cX4_mesh 2 = .ok (.bipush 8, 2) := by decide +kernel
theorem dX4_mesh_4 : decode cX4_mesh 4 = .ok (.invokestatic 39, 3) := by decide +kernel
theorem dX4_mesh_7 : decode cX4_mesh 7 = .ok (.ifCond .eq 23, 3) := by decide +kernel
theorem dX4_mesh_10 : decode cX4_mesh 10 = .ok (.iload_n 2, 1) := by decide +kernel
theorem dX4_mesh_11 : decode cX4_mesh 11 = .ok (.iconst 1, 1) := by decide +kernel
theorem dX4_mesh_12 : decode cX4_mesh 12 = .ok (.bipush 24, 2) := by decide +kernel
theorem dX4_mesh_14 : decode cX4_mesh 14 = .ok (.invokestatic 39, 3) := by decide +kernel
theorem dX4_mesh_17 : decode cX4_mesh 17 = .ok (.ifCond .eq 13, 3) := by decide +kernel
theorem dX4_mesh_20 : decode cX4_mesh 20 = .ok (.iload_n 3, 1) := by decide +kernel
theorem dX4_mesh_21 : decode cX4_mesh 21 = .ok (.iconst 1, 1) := by decide +kernel
theorem dX4_mesh_22 : decode cX4_mesh 22 = .ok (.bipush 15, 2) := by decide +kernel
theorem dX4_mesh_24 : decode cX4_mesh 24 = .ok (.invokestatic 39, 3) := by decide +kernel
theorem dX4_mesh_27 : decode cX4_mesh 27 = .ok (.ifCond .ne 6, 3) := by decide +kernel
theorem dX4_mesh_30 : decode cX4_mesh 30 = .ok (.bipush (-2), 2) := by decide +kernel
theorem dX4_mesh_32 : decode cX4_mesh 32 = .ok (.ireturn, 1) := by decide +kernel
theorem dX4_mesh_33 : decode cX4_mesh 33 = .ok (.aload_n 0, 1) := by decide +kernel
theorem dX4_mesh_34 : decode cX4_mesh 34 = .ok (.getfield 10, 3) := by decide +kernel
theorem dX4_mesh_37 : decode cX4_mesh 37 = .ok (.iload_n 1, 1) := by decide +kernel
theorem dX4_mesh_38 : decode cX4_mesh 38 = .ok (.iload_n 2, 1) := by decide +kernel
theorem dX4_mesh_39 : decode cX4_mesh 39 = .ok (.iload_n 3, 1) := by decide +kernel
theorem dX4_mesh_40 : decode cX4_mesh 40 = .ok (.invokevirtual 43, 3) := by decide +kernel
theorem dX4_mesh_43 : decode cX4_mesh 43 = .ok (.aload_n 0, 1) := by decide +kernel
theorem dX4_mesh_44 : decode cX4_mesh 44 = .ok (.getfield 21, 3) := by decide +kernel
theorem dX4_mesh_47 : decode cX4_mesh 47 = .ok (.invokevirtual 47, 3) := by decide +kernel
theorem dX4_mesh_50 : decode cX4_mesh 50 = .ok (.aload_n 0, 1) := by decide +kernel
theorem dX4_mesh_51 : decode cX4_mesh 51 = .ok (.getfield 28, 3) := by decide +kernel
theorem dX4_mesh_54 : decode cX4_mesh 54 = .ok (.iconst 0, 1) := by decide +kernel
theorem dX4_mesh_55 : decode cX4_mesh 55 = .ok (.putfield 50, 3) := by decide +kernel
theorem dX4_mesh_58 : decode cX4_mesh 58 = .ok (.iconst 1, 1) := by decide +kernel
theorem dX4_mesh_59 : decode cX4_mesh 59 = .ok (.ireturn, 1) := by decide +kernel
theorem dX4_write_0 : decode cX4_write 0 = .ok (.aload_n 0, 1) := by decide +kernel
theorem dX4_write_1 : decode cX4_write 1 = .ok (.getfield 10, 3) := by decide +kernel
theorem dX4_write_4 : decode cX4_write 4 = .ok (.iload_n 1, 1) := by decide +kernel
theorem dX4_write_5 : decode cX4_write 5 = .ok (.iload_n 2, 1) := by decide +kernel
theorem dX4_write_6 : decode cX4_write 6 = .ok (.invokevirtual 54, 3) := by decide +kernel
theorem dX4_write_9 : decode cX4_write 9 = .ok (.ifCond .eq 18, 3) := by decide +kernel
theorem dX4_write_12 : decode cX4_write 12 = .ok (.iload_n 3, 1) := by decide +kernel
theorem dX4_write_13 : decode cX4_write 13 = .ok (.iconst 0, 1) := by decide +kernel
theorem dX4_write_14 : decode cX4_write 14 = .ok (.aload_n 0, 1) := by decide +kernel
theorem dX4_write_15 : decode cX4_write 15 = .ok (.getfield 10, 3) := by decide +kernel
theorem dX4_write_18 : decode cX4_write 18 = .ok (.getfield 58, 3) := by decide +kernel
theorem dX4_write_21 : decode cX4_write 21 = .ok (.invokestatic 39, 3) := by decide +kernel
theorem dX4_write_24 : decode cX4_write 24 = .ok (.ifCond .ne 6, 3) := by decide +kernel
theorem dX4_write_27 : decode cX4_write 27 = .ok (.bipush (-2), 2) := by decide +kernel
theorem dX4_write_29 : decode cX4_write 29 = .ok (.ireturn, 1) := by decide +kernel
theorem dX4_write_30 : decode cX4_write 30 = .ok (.aload_n 0, 1) := by decide +kernel
theorem dX4_write_31 : decode cX4_write 31 = .ok (.getfield 10, 3) := by decide +kernel
theorem dX4_write_34 : decode cX4_write 34 = .ok (.iload_n 1, 1) := by decide +kernel
theorem dX4_write_35 : decode cX4_write 35 = .ok (.iload_n 2, 1) := by decide +kernel
theorem dX4_write_36 : decode cX4_write 36 = .ok (.invokevirtual 62, 3) := by decide +kernel
theorem dX4_write_39 : decode cX4_write 39 = .ok (.istore 4, 2) := by decide +kernel
theorem dX4_write_41 : decode cX4_write 41 = .ok (.aload_n 0, 1) := by decide +kernel
theorem dX4_write_42 : decode cX4_write 42 = .ok (.getfield 10, 3) := by decide +kernel
theorem dX4_write_45 : decode cX4_write 45 = .ok (.iload 4, 2) := by decide +kernel
theorem dX4_write_47 : decode cX4_write 47 = .ok (.iload_n 3, 1) := by decide +kernel
theorem dX4_write_48 : decode cX4_write 48 = .ok (.invokevirtual 66, 3) := by decide +kernel
theorem dX4_write_51 : decode cX4_write 51 = .ok (.ifCond .eq 6, 3) := by decide +kernel
theorem dX4_write_54 : decode cX4_write 54 = .ok (.bipush (-3), 2) := by decide +kernel
theorem dX4_write_56 : decode cX4_write 56 = .ok (.ireturn, 1) := by decide +kernel
theorem dX4_write_57 : decode cX4_write 57 = .ok (.aload_n 0, 1) := by decide +kernel
theorem dX4_write_58 : decode cX4_write 58 = .ok (.getfield 10, 3) := by decide +kernel
theorem dX4_write_61 : decode cX4_write 61 = .ok (.iload 4, 2) := by decide +kernel
theorem dX4_write_63 : decode cX4_write 63 = .ok (.iload_n 3, 1) := by decide +kernel
theorem dX4_write_64 : decode cX4_write 64 = .ok (.invokevirtual 69, 3) := by decide +kernel
theorem dX4_write_67 : decode cX4_write 67 = .ok (.iconst 1, 1) := by decide +kernel
theorem dX4_write_68 : decode cX4_write 68 = .ok (.ireturn, 1) := by decide +kernel
theorem dX4_stick_0 : decode cX4_stick 0 = .ok (.aload_n 0, 1) := by decide +kernel
theorem dX4_stick_1 : decode cX4_stick 1 = .ok (.getfield 10, 3) := by decide +kernel
theorem dX4_stick_4 : decode cX4_stick 4 = .ok (.iload_n 1, 1) := by decide +kernel
theorem dX4_stick_5 : decode cX4_stick 5 = .ok (.iload_n 2, 1) := by decide +kernel
theorem dX4_stick_6 : decode cX4_stick 6 = .ok (.invokevirtual 54, 3) := by decide +kernel
theorem dX4_stick_9 : decode cX4_stick 9 = .ok (.ifCond .eq 18, 3) := by decide +kernel
theorem dX4_stick_12 : decode cX4_stick 12 = .ok (.iload_n 3, 1) := by decide +kernel
theorem dX4_stick_13 : decode cX4_stick 13 = .ok (.iconst (-1), 1) := by decide +kernel
theorem dX4_stick_14 : decode cX4_stick 14 = .ok (.aload_n 0, 1) := by decide +kernel
theorem dX4_stick_15 : decode cX4_stick 15 = .ok (.getfield 10, 3) := by decide +kernel
theorem dX4_stick_18 : decode cX4_stick 18 = .ok (.getfield 58, 3) := by decide +kernel
theorem dX4_stick_21 : decode cX4_stick 21 = .ok (.invokestatic 39, 3) := by decide +kernel
theorem dX4_stick_24 : decode cX4_stick 24 = .ok (.ifCond .ne 6, 3) := by decide +kernel
theorem dX4_stick_27 : decode cX4_stick 27 = .ok (.bipush (-2), 2) := by decide +kernel
theorem dX4_stick_29 : decode cX4_stick 29 = .ok (.ireturn, 1) := by decide +kernel
theorem dX4_stick_30 : decode cX4_stick 30 = .ok (.aload_n 0, 1) := by decide +kernel
theorem dX4_stick_31 : decode cX4_stick 31 = .ok (.getfield 10, 3) := by decide +kernel
theorem dX4_stick_34 : decode cX4_stick 34 = .ok (.aload_n 0, 1) := by decide +kernel
theorem dX4_stick_35 : decode cX4_stick 35 = .ok (.getfield 10, 3) := by decide +kernel
theorem dX4_stick_38 : decode cX4_stick 38 = .ok (.iload_n 1, 1) := by decide +kernel
theorem dX4_stick_39 : decode cX4_stick 39 = .ok (.iload_n 2, 1) := by decide +kernel
theorem dX4_stick_40 : decode cX4_stick 40 = .ok (.invokevirtual 62, 3) := by decide +kernel
theorem dX4_stick_43 : decode cX4_stick 43 = .ok (.iload_n 3, 1) := by decide +kernel
theorem dX4_stick_44 : decode cX4_stick 44 = .ok (.invokevirtual 73, 3) := by decide +kernel
theorem dX4_stick_47 : decode cX4_stick 47 = .ok (.iconst 1, 1) := by decide +kernel
theorem dX4_stick_48 : decode cX4_stick 48 = .ok (.ireturn, 1) := by decide +kernel
theorem dX4_cell_0 : decode cX4_cell 0 = .ok (.aload_n 0, 1) := by decide +kernel
theorem dX4_cell_1 : decode cX4_cell 1 = .ok (.getfield 10, 3) := by decide +kernel
theorem dX4_cell_4 : decode cX4_cell 4 = .ok (.iload_n 1, 1) := by decide +kernel
theorem dX4_cell_5 : decode cX4_cell 5 = .ok (.iload_n 2, 1) := by decide +kernel
theorem dX4_cell_6 : decode cX4_cell 6 = .ok (.invokevirtual 54, 3) := by decide +kernel
theorem dX4_cell_9 : decode cX4_cell 9 = .ok (.ifCond .eq 12, 3) := by decide +kernel
theorem dX4_cell_12 : decode cX4_cell 12 = .ok (.iload_n 3, 1) := by decide +kernel
theorem dX4_cell_13 : decode cX4_cell 13 = .ok (.iconst 0, 1) := by decide +kernel
theorem dX4_cell_14 : decode cX4_cell 14 = .ok (.iconst 2, 1) := by decide +kernel
theorem dX4_cell_15 : decode cX4_cell 15 = .ok (.invokestatic 39, 3) := by decide +kernel
theorem dX4_cell_18 : decode cX4_cell 18 = .ok (.ifCond .ne 6, 3) := by decide +kernel
theorem dX4_cell_21 : decode cX4_cell 21 = .ok (.bipush (-2), 2) := by decide +kernel
theorem dX4_cell_23 : decode cX4_cell 23 = .ok (.ireturn, 1) := by decide +kernel
theorem dX4_cell_24 : decode cX4_cell 24 = .ok (.aload_n 0, 1) := by decide +kernel
theorem dX4_cell_25 : decode cX4_cell 25 = .ok (.getfield 10, 3) := by decide +kernel
theorem dX4_cell_28 : decode cX4_cell 28 = .ok (.aload_n 0, 1) := by decide +kernel
theorem dX4_cell_29 : decode cX4_cell 29 = .ok (.getfield 10, 3) := by decide +kernel
theorem dX4_cell_32 : decode cX4_cell 32 = .ok (.iload_n 1, 1) := by decide +kernel
theorem dX4_cell_33 : decode cX4_cell 33 = .ok (.iload_n 2, 1) := by decide +kernel
theorem dX4_cell_34 : decode cX4_cell 34 = .ok (.invokevirtual 62, 3) := by decide +kernel
theorem dX4_cell_37 : decode cX4_cell 37 = .ok (.iload_n 3, 1) := by decide +kernel
theorem dX4_cell_38 : decode cX4_cell 38 = .ok (.invokevirtual 76, 3) := by decide +kernel
theorem dX4_cell_41 : decode cX4_cell 41 = .ok (.ireturn, 1) := by decide +kernel
theorem dX4_input_0 : decode cX4_input 0 = .ok (.iload_n 1, 1) := by decide +kernel
theorem dX4_input_1 : decode cX4_input 1 = .ok (.iconst 0, 1) := by decide +kernel
theorem dX4_input_2 : decode cX4_input 2 = .ok (.aload_n 0, 1) := by decide +kernel
theorem dX4_input_3 : decode cX4_input 3 = .ok (.getfield 10, 3) := by decide +kernel
theorem dX4_input_6 : decode cX4_input 6 = .ok (.getfield 79, 3) := by decide +kernel
theorem dX4_input_9 : decode cX4_input 9 = .ok (.iconst 1, 1) := by decide +kernel
theorem dX4_input_10 : decode cX4_input 10 = .ok (.isub, 1) := by decide +kernel
theorem dX4_input_11 : decode cX4_input 11 = .ok (.invokestatic 39, 3) := by decide +kernel
theorem dX4_input_14 : decode cX4_input 14 = .ok (.ifCond .eq 14, 3) := by decide +kernel
theorem dX4_input_17 : decode cX4_input 17 = .ok (.iload_n 2, 1) := by decide +kernel
theorem dX4_input_18 : decode cX4_input 18 = .ok (.iconst 0, 1) := by decide +kernel
theorem dX4_input_19 : decode cX4_input 19 = .ok (.sipush 255, 3) := by decide +kernel
theorem dX4_input_22 : decode cX4_input 22 = .ok (.invokestatic 39, 3) := by decide +kernel
theorem dX4_input_25 : decode cX4_input 25 = .ok (.ifCond .ne 6, 3) := by decide +kernel
theorem dX4_input_28 : decode cX4_input 28 = .ok (.bipush (-2), 2) := by decide +kernel
theorem dX4_input_30 : decode cX4_input 30 = .ok (.ireturn, 1) := by decide +kernel
theorem dX4_input_31 : decode cX4_input 31 = .ok (.aload_n 0, 1) := by decide +kernel
theorem dX4_input_32 : decode cX4_input 32 = .ok (.getfield 10, 3) := by decide +kernel
theorem dX4_input_35 : decode cX4_input 35 = .ok (.getfield 82, 3) := by decide +kernel
theorem dX4_input_38 : decode cX4_input 38 = .ok (.iload_n 1, 1) := by decide +kernel
theorem dX4_input_39 : decode cX4_input 39 = .ok (.iaload, 1) := by decide +kernel
theorem dX4_input_40 : decode cX4_input 40 = .ok (.istore_n 3, 1) := by decide +kernel
theorem dX4_input_41 : decode cX4_input 41 = .ok (.aload_n 0, 1) := by decide +kernel
theorem dX4_input_42 : decode cX4_input 42 = .ok (.getfield 10, 3) := by decide +kernel
theorem dX4_input_45 : decode cX4_input 45 = .ok (.getfield 82, 3) := by decide +kernel
theorem dX4_input_48 : decode cX4_input 48 = .ok (.iload_n 1, 1) := by decide +kernel
theorem dX4_input_49 : decode cX4_input 49 = .ok (.iload_n 2, 1) := by decide +kernel
theorem dX4_input_50 : decode cX4_input 50 = .ok (.iastore, 1) := by decide +kernel
theorem dX4_input_51 : decode cX4_input 51 = .ok (.iload_n 3, 1) := by decide +kernel
theorem dX4_input_52 : decode cX4_input 52 = .ok (.ireturn, 1) := by decide +kernel
theorem dX4_bits_0 : decode cX4_bits 0 = .ok (.iload_n 1, 1) := by decide +kernel
theorem dX4_bits_1 : decode cX4_bits 1 = .ok (.iconst 1, 1) := by decide +kernel
theorem dX4_bits_2 : decode cX4_bits 2 = .ok (.bipush 16, 2) := by decide +kernel
theorem dX4_bits_4 : decode cX4_bits 4 = .ok (.invokestatic 39, 3) := by decide +kernel
theorem dX4_bits_7 : decode cX4_bits 7 = .ok (.ifCond .ne 6, 3) := by decide +kernel
theorem dX4_bits_10 : decode cX4_bits 10 = .ok (.bipush (-2), 2) := by decide +kernel
theorem dX4_bits_12 : decode cX4_bits 12 = .ok (.ireturn, 1) := by decide +kernel
theorem dX4_bits_13 : decode cX4_bits 13 = .ok (.aload_n 0, 1) := by decide +kernel
theorem dX4_bits_14 : decode cX4_bits 14 = .ok (.getfield 10, 3) := by decide +kernel
theorem dX4_bits_17 : decode cX4_bits 17 = .ok (.getfield 86, 3) := by decide +kernel
theorem dX4_bits_20 : decode cX4_bits 20 = .ok (.istore_n 2, 1) := by decide +kernel
theorem dX4_bits_21 : decode cX4_bits 21 = .ok (.aload_n 0, 1) := by decide +kernel
theorem dX4_bits_22 : decode cX4_bits 22 = .ok (.getfield 10, 3) := by decide +kernel
theorem dX4_bits_25 : decode cX4_bits 25 = .ok (.iload_n 1, 1) := by decide +kernel
theorem dX4_bits_26 : decode cX4_bits 26 = .ok (.putfield 86, 3) := by decide +kernel
theorem dX4_bits_29 : decode cX4_bits 29 = .ok (.iload_n 2, 1) := by decide +kernel
theorem dX4_bits_30 : decode cX4_bits 30 = .ok (.ireturn, 1) := by decide +kernel
theorem dX4_sum_0 : decode cX4_sum 0 = .ok (.iload_n 1, 1) := by decide +kernel
theorem dX4_sum_1 : decode cX4_sum 1 = .ok (.iconst 0, 1) := by decide +kernel
theorem dX4_sum_2 : decode cX4_sum 2 = .ok (.aload_n 0, 1) := by decide +kernel
theorem dX4_sum_3 : decode cX4_sum 3 = .ok (.getfield 10, 3) := by decide +kernel
theorem dX4_sum_6 : decode cX4_sum 6 = .ok (.getfield 89, 3) := by decide +kernel
theorem dX4_sum_9 : decode cX4_sum 9 = .ok (.iconst 1, 1) := by decide +kernel
theorem dX4_sum_10 : decode cX4_sum 10 = .ok (.isub, 1) := by decide +kernel
theorem dX4_sum_11 : decode cX4_sum 11 = .ok (.invokestatic 39, 3) := by decide +kernel
theorem dX4_sum_14 : decode cX4_sum 14 = .ok (.ifCond .ne 6, 3) := by decide +kernel
theorem dX4_sum_17 : decode cX4_sum 17 = .ok (.bipush (-2), 2) := by decide +kernel
theorem dX4_sum_19 : decode cX4_sum 19 = .ok (.ireturn, 1) := by decide +kernel
theorem dX4_sum_20 : decode cX4_sum 20 = .ok (.aload_n 0, 1) := by decide +kernel
theorem dX4_sum_21 : decode cX4_sum 21 = .ok (.getfield 10, 3) := by decide +kernel
theorem dX4_sum_24 : decode cX4_sum 24 = .ok (.aload_n 0, 1) := by decide +kernel
theorem dX4_sum_25 : decode cX4_sum 25 = .ok (.getfield 10, 3) := by decide +kernel
theorem dX4_sum_28 : decode cX4_sum 28 = .ok (.iload_n 1, 1) := by decide +kernel
theorem dX4_sum_29 : decode cX4_sum 29 = .ok (.invokevirtual 92, 3) := by decide +kernel
theorem dX4_sum_32 : decode cX4_sum 32 = .ok (.invokevirtual 96, 3) := by decide +kernel
theorem dX4_sum_35 : decode cX4_sum 35 = .ok (.ireturn, 1) := by decide +kernel
theorem dX4_table_0 : decode cX4_table 0 = .ok (.iload_n 1, 1) := by decide +kernel
theorem dX4_table_1 : decode cX4_table 1 = .ok (.iconst 1, 1) := by decide +kernel
theorem dX4_table_2 : decode cX4_table 2 = .ok (.aload_n 0, 1) := by decide +kernel
theorem dX4_table_3 : decode cX4_table 3 = .ok (.getfield 10, 3) := by decide +kernel
theorem dX4_table_6 : decode cX4_table 6 = .ok (.getfield 79, 3) := by decide +kernel
theorem dX4_table_9 : decode cX4_table 9 = .ok (.invokestatic 39, 3) := by decide +kernel
theorem dX4_table_12 : decode cX4_table 12 = .ok (.ifCond .eq 23, 3) := by decide +kernel
theorem dX4_table_15 : decode cX4_table 15 = .ok (.iload_n 2, 1) := by decide +kernel
theorem dX4_table_16 : decode cX4_table 16 = .ok (.iconst 1, 1) := by decide +kernel
theorem dX4_table_17 : decode cX4_table 17 = .ok (.bipush 12, 2) := by decide +kernel
theorem dX4_table_19 : decode cX4_table 19 = .ok (.invokestatic 39, 3) := by decide +kernel
theorem dX4_table_22 : decode cX4_table 22 = .ok (.ifCond .eq 13, 3) := by decide +kernel
theorem dX4_table_25 : decode cX4_table 25 = .ok (.iload_n 3, 1) := by decide +kernel
theorem dX4_table_26 : decode cX4_table 26 = .ok (.iconst 1, 1) := by decide +kernel
theorem dX4_table_27 : decode cX4_table 27 = .ok (.bipush 6, 2) := by decide +kernel
theorem dX4_table_29 : decode cX4_table 29 = .ok (.invokestatic 39, 3) := by decide +kernel
theorem dX4_table_32 : decode cX4_table 32 = .ok (.ifCond .ne 6, 3) := by decide +kernel
theorem dX4_table_35 : decode cX4_table 35 = .ok (.bipush (-2), 2) := by decide +kernel
theorem dX4_table_37 : decode cX4_table 37 = .ok (.ireturn, 1) := by decide +kernel
theorem dX4_table_38 : decode cX4_table 38 = .ok (.iconst 2, 1) := by decide +kernel
theorem dX4_table_39 : decode cX4_table 39 = .ok (.iload_n 3, 1) := by decide +kernel
theorem dX4_table_40 : decode cX4_table 40 = .ok (.imul, 1) := by decide +kernel
theorem dX4_table_41 : decode cX4_table 41 = .ok (.iload_n 2, 1) := by decide +kernel
theorem dX4_table_42 : decode cX4_table 42 = .ok (.imul, 1) := by decide +kernel
theorem dX4_table_43 : decode cX4_table 43 = .ok (.aload_n 0, 1) := by decide +kernel
theorem dX4_table_44 : decode cX4_table 44 = .ok (.getfield 10, 3) := by decide +kernel
theorem dX4_table_47 : decode cX4_table 47 = .ok (.getfield 89, 3) := by decide +kernel
theorem dX4_table_50 : decode cX4_table 50 = .ok (.if_icmp .le 6, 3) := by decide +kernel
theorem dX4_table_53 : decode cX4_table 53 = .ok (.bipush (-3), 2) := by decide +kernel
theorem dX4_table_55 : decode cX4_table 55 = .ok (.ireturn, 1) := by decide +kernel
theorem dX4_table_56 : decode cX4_table 56 = .ok (.aload_n 0, 1) := by decide +kernel
theorem dX4_table_57 : decode cX4_table 57 = .ok (.getfield 21, 3) := by decide +kernel
theorem dX4_table_60 : decode cX4_table 60 = .ok (.iload_n 1, 1) := by decide +kernel
theorem dX4_table_61 : decode cX4_table 61 = .ok (.iload_n 2, 1) := by decide +kernel
theorem dX4_table_62 : decode cX4_table 62 = .ok (.iload_n 3, 1) := by decide +kernel
theorem dX4_table_63 : decode cX4_table 63 = .ok (.invokevirtual 99, 3) := by decide +kernel
theorem dX4_table_66 : decode cX4_table 66 = .ok (.iconst 1, 1) := by decide +kernel
theorem dX4_table_67 : decode cX4_table 67 = .ok (.ireturn, 1) := by decide +kernel
theorem dX4_number_0 : decode cX4_number 0 = .ok (.iload_n 1, 1) := by decide +kernel
theorem dX4_number_1 : decode cX4_number 1 = .ok (.iconst 0, 1) := by decide +kernel
theorem dX4_number_2 : decode cX4_number 2 = .ok (.aload_n 0, 1) := by decide +kernel
theorem dX4_number_3 : decode cX4_number 3 = .ok (.getfield 21, 3) := by decide +kernel
theorem dX4_number_6 : decode cX4_number 6 = .ok (.getfield 102, 3) := by decide +kernel
theorem dX4_number_9 : decode cX4_number 9 = .ok (.iconst 1, 1) := by decide +kernel
theorem dX4_number_10 : decode cX4_number 10 = .ok (.isub, 1) := by decide +kernel
theorem dX4_number_11 : decode cX4_number 11 = .ok (.invokestatic 39, 3) := by decide +kernel
theorem dX4_number_14 : decode cX4_number 14 = .ok (.ifCond .eq 42, 3) := by decide +kernel
theorem dX4_number_17 : decode cX4_number 17 = .ok (.iload_n 2, 1) := by decide +kernel
theorem dX4_number_18 : decode cX4_number 18 = .ok (.iconst 0, 1) := by decide +kernel
theorem dX4_number_19 : decode cX4_number 19 = .ok (.aload_n 0, 1) := by decide +kernel
theorem dX4_number_20 : decode cX4_number 20 = .ok (.getfield 21, 3) := by decide +kernel
theorem dX4_number_23 : decode cX4_number 23 = .ok (.getfield 105, 3) := by decide +kernel
theorem dX4_number_26 : decode cX4_number 26 = .ok (.iconst 1, 1) := by decide +kernel
theorem dX4_number_27 : decode cX4_number 27 = .ok (.isub, 1) := by decide +kernel
theorem dX4_number_28 : decode cX4_number 28 = .ok (.invokestatic 39, 3) := by decide +kernel
theorem dX4_number_31 : decode cX4_number 31 = .ok (.ifCond .eq 25, 3) := by decide +kernel
theorem dX4_number_34 : decode cX4_number 34 = .ok (.iload_n 3, 1) := by decide +kernel
theorem dX4_number_35 : decode cX4_number 35 = .ok (.aload_n 0, 1) := by decide +kernel
theorem dX4_number_36 : decode cX4_number 36 = .ok (.getfield 21, 3) := by decide +kernel
theorem dX4_number_39 : decode cX4_number 39 = .ok (.getfield 108, 3) := by decide +kernel
theorem dX4_number_42 : decode cX4_number 42 = .ok (.ineg, 1) := by decide +kernel
theorem dX4_number_43 : decode cX4_number 43 = .ok (.aload_n 0, 1) := by decide +kernel
theorem dX4_number_44 : decode cX4_number 44 = .ok (.getfield 21, 3) := by decide +kernel
theorem dX4_number_47 : decode cX4_number 47 = .ok (.getfield 108, 3) := by decide +kernel
theorem dX4_number_50 : decode cX4_number 50 = .ok (.invokestatic 39, 3) := by decide +kernel
theorem dX4_number_53 : decode cX4_number 53 = .ok (.ifCond .ne 6, 3) := by decide +kernel
theorem dX4_number_56 : decode cX4_number 56 = .ok (.ldc 111, 2) := by decide +kernel
theorem dX4_number_58 : decode cX4_number 58 = .ok (.ireturn, 1) := by decide +kernel
theorem dX4_number_59 : decode cX4_number 59 = .ok (.aload_n 0, 1) := by decide +kernel
theorem dX4_number_60 : decode cX4_number 60 = .ok (.getfield 21, 3) := by decide +kernel
theorem dX4_number_63 : decode cX4_number 63 = .ok (.iload_n 1, 1) := by decide +kernel
theorem dX4_number_64 : decode cX4_number 64 = .ok (.iload_n 2, 1) := by decide +kernel
theorem dX4_number_65 : decode cX4_number 65 = .ok (.iload_n 3, 1) := by decide +kernel
theorem dX4_number_66 : decode cX4_number 66 = .ok (.invokevirtual 112, 3) := by decide +kernel
theorem dX4_number_69 : decode cX4_number 69 = .ok (.ireturn, 1) := by decide +kernel
theorem dX4_lay_0 : decode cX4_lay 0 = .ok (.aload_n 0, 1) := by decide +kernel
theorem dX4_lay_1 : decode cX4_lay 1 = .ok (.getfield 21, 3) := by decide +kernel
theorem dX4_lay_4 : decode cX4_lay 4 = .ok (.invokevirtual 116, 3) := by decide +kernel
theorem dX4_lay_7 : decode cX4_lay 7 = .ok (.ifCond .eq 13, 3) := by decide +kernel
theorem dX4_lay_10 : decode cX4_lay 10 = .ok (.aload_n 0, 1) := by decide +kernel
theorem dX4_lay_11 : decode cX4_lay 11 = .ok (.getfield 21, 3) := by decide +kernel
theorem dX4_lay_14 : decode cX4_lay 14 = .ok (.invokevirtual 120, 3) := by decide +kernel
theorem dX4_lay_17 : decode cX4_lay 17 = .ok (.goto 5, 3) := by decide +kernel
theorem dX4_lay_20 : decode cX4_lay 20 = .ok (.bipush (-3), 2) := by decide +kernel
theorem dX4_lay_22 : decode cX4_lay 22 = .ok (.ireturn, 1) := by decide +kernel
theorem dX4_product_0 : decode cX4_product 0 = .ok (.aload_n 0, 1) := by decide +kernel
theorem dX4_product_1 : decode cX4_product 1 = .ok (.getfield 21, 3) := by decide +kernel
theorem dX4_product_4 : decode cX4_product 4 = .ok (.getfield 124, 3) := by decide +kernel
theorem dX4_product_7 : decode cX4_product 7 = .ok (.ifCond .eq 20, 3) := by decide +kernel
theorem dX4_product_10 : decode cX4_product 10 = .ok (.iload_n 1, 1) := by decide +kernel
theorem dX4_product_11 : decode cX4_product 11 = .ok (.iconst 0, 1) := by decide +kernel
theorem dX4_product_12 : decode cX4_product 12 = .ok (.aload_n 0, 1) := by decide +kernel
theorem dX4_product_13 : decode cX4_product 13 = .ok (.getfield 21, 3) := by decide +kernel
theorem dX4_product_16 : decode cX4_product 16 = .ok (.getfield 105, 3) := by decide +kernel
theorem dX4_product_19 : decode cX4_product 19 = .ok (.iconst 1, 1) := by decide +kernel
theorem dX4_product_20 : decode cX4_product 20 = .ok (.isub, 1) := by decide +kernel
theorem dX4_product_21 : decode cX4_product 21 = .ok (.invokestatic 39, 3) := by decide +kernel
theorem dX4_product_24 : decode cX4_product 24 = .ok (.ifCond .ne 7, 3) := by decide +kernel
theorem dX4_product_27 : decode cX4_product 27 = .ok (.ldc2_w 127, 3) := by decide +kernel
theorem dX4_product_30 : decode cX4_product 30 = .ok (.lreturn, 1) := by decide +kernel
theorem dX4_product_31 : decode cX4_product 31 = .ok (.aload_n 0, 1) := by decide +kernel
theorem dX4_product_32 : decode cX4_product 32 = .ok (.getfield 21, 3) := by decide +kernel
theorem dX4_product_35 : decode cX4_product 35 = .ok (.iload_n 1, 1) := by decide +kernel
theorem dX4_product_36 : decode cX4_product 36 = .ok (.invokevirtual 129, 3) := by decide +kernel
theorem dX4_product_39 : decode cX4_product 39 = .ok (.lreturn, 1) := by decide +kernel
theorem dX4_due_0 : decode cX4_due 0 = .ok (.iload_n 1, 1) := by decide +kernel
theorem dX4_due_1 : decode cX4_due 1 = .ok (.iconst 0, 1) := by decide +kernel
theorem dX4_due_2 : decode cX4_due 2 = .ok (.aload_n 0, 1) := by decide +kernel
theorem dX4_due_3 : decode cX4_due 3 = .ok (.getfield 21, 3) := by decide +kernel
theorem dX4_due_6 : decode cX4_due 6 = .ok (.getfield 105, 3) := by decide +kernel
theorem dX4_due_9 : decode cX4_due 9 = .ok (.iconst 1, 1) := by decide +kernel
theorem dX4_due_10 : decode cX4_due 10 = .ok (.isub, 1) := by decide +kernel
theorem dX4_due_11 : decode cX4_due 11 = .ok (.invokestatic 39, 3) := by decide +kernel
theorem dX4_due_14 : decode cX4_due 14 = .ok (.ifCond .ne 7, 3) := by decide +kernel
theorem dX4_due_17 : decode cX4_due 17 = .ok (.ldc2_w 127, 3) := by decide +kernel
theorem dX4_due_20 : decode cX4_due 20 = .ok (.lreturn, 1) := by decide +kernel
theorem dX4_due_21 : decode cX4_due 21 = .ok (.aload_n 0, 1) := by decide +kernel
theorem dX4_due_22 : decode cX4_due 22 = .ok (.getfield 21, 3) := by decide +kernel
theorem dX4_due_25 : decode cX4_due 25 = .ok (.iload_n 1, 1) := by decide +kernel
theorem dX4_due_26 : decode cX4_due 26 = .ok (.invokevirtual 133, 3) := by decide +kernel
theorem dX4_due_29 : decode cX4_due 29 = .ok (.lreturn, 1) := by decide +kernel
theorem dX4_enough_0 : decode cX4_enough 0 = .ok (.aload_n 0, 1) := by decide +kernel
theorem dX4_enough_1 : decode cX4_enough 1 = .ok (.getfield 21, 3) := by decide +kernel
theorem dX4_enough_4 : decode cX4_enough 4 = .ok (.invokevirtual 116, 3) := by decide +kernel
theorem dX4_enough_7 : decode cX4_enough 7 = .ok (.ifCond .eq 13, 3) := by decide +kernel
theorem dX4_enough_10 : decode cX4_enough 10 = .ok (.aload_n 0, 1) := by decide +kernel
theorem dX4_enough_11 : decode cX4_enough 11 = .ok (.getfield 21, 3) := by decide +kernel
theorem dX4_enough_14 : decode cX4_enough 14 = .ok (.invokevirtual 136, 3) := by decide +kernel
theorem dX4_enough_17 : decode cX4_enough 17 = .ok (.goto 5, 3) := by decide +kernel
theorem dX4_enough_20 : decode cX4_enough 20 = .ok (.bipush (-3), 2) := by decide +kernel
theorem dX4_enough_22 : decode cX4_enough 22 = .ok (.ireturn, 1) := by decide +kernel
theorem dX4_map_0 : decode cX4_map 0 = .ok (.aload_n 0, 1) := by decide +kernel
theorem dX4_map_1 : decode cX4_map 1 = .ok (.getfield 21, 3) := by decide +kernel
theorem dX4_map_4 : decode cX4_map 4 = .ok (.invokevirtual 116, 3) := by decide +kernel
theorem dX4_map_7 : decode cX4_map 7 = .ok (.ifCond .eq 13, 3) := by decide +kernel
theorem dX4_map_10 : decode cX4_map 10 = .ok (.aload_n 0, 1) := by decide +kernel
theorem dX4_map_11 : decode cX4_map 11 = .ok (.getfield 21, 3) := by decide +kernel
theorem dX4_map_14 : decode cX4_map 14 = .ok (.invokevirtual 139, 3) := by decide +kernel
theorem dX4_map_17 : decode cX4_map 17 = .ok (.goto 5, 3) := by decide +kernel
theorem dX4_map_20 : decode cX4_map 20 = .ok (.bipush (-3), 2) := by decide +kernel
theorem dX4_map_22 : decode cX4_map 22 = .ok (.ireturn, 1) := by decide +kernel
theorem dX4_mapped_0 : decode cX4_mapped 0 = .ok (.iload_n 1, 1) := by decide +kernel
theorem dX4_mapped_1 : decode cX4_mapped 1 = .ok (.ifCond .ge 6, 3) := by decide +kernel
theorem dX4_mapped_4 : decode cX4_mapped 4 = .ok (.bipush (-2), 2) := by decide +kernel
theorem dX4_mapped_6 : decode cX4_mapped 6 = .ok (.ireturn, 1) := by decide +kernel
theorem dX4_mapped_7 : decode cX4_mapped 7 = .ok (.aload_n 0, 1) := by decide +kernel
theorem dX4_mapped_8 : decode cX4_mapped 8 = .ok (.getfield 21, 3) := by decide +kernel
theorem dX4_mapped_11 : decode cX4_mapped 11 = .ok (.invokevirtual 116, 3) := by decide +kernel
theorem dX4_mapped_14 : decode cX4_mapped 14 = .ok (.ifCond .ne 6, 3) := by decide +kernel
theorem dX4_mapped_17 : decode cX4_mapped 17 = .ok (.bipush (-3), 2) := by decide +kernel
theorem dX4_mapped_19 : decode cX4_mapped 19 = .ok (.ireturn, 1) := by decide +kernel
theorem dX4_mapped_20 : decode cX4_mapped 20 = .ok (.iload_n 1, 1) := by decide +kernel
theorem dX4_mapped_21 : decode cX4_mapped 21 = .ok (.iconst 0, 1) := by decide +kernel
theorem dX4_mapped_22 : decode cX4_mapped 22 = .ok (.aload_n 0, 1) := by decide +kernel
theorem dX4_mapped_23 : decode cX4_mapped 23 = .ok (.getfield 21, 3) := by decide +kernel
theorem dX4_mapped_26 : decode cX4_mapped 26 = .ok (.getfield 102, 3) := by decide +kernel
theorem dX4_mapped_29 : decode cX4_mapped 29 = .ok (.iconst 1, 1) := by decide +kernel
theorem dX4_mapped_30 : decode cX4_mapped 30 = .ok (.isub, 1) := by decide +kernel
theorem dX4_mapped_31 : decode cX4_mapped 31 = .ok (.invokestatic 39, 3) := by decide +kernel
theorem dX4_mapped_34 : decode cX4_mapped 34 = .ok (.ifCond .eq 15, 3) := by decide +kernel
theorem dX4_mapped_37 : decode cX4_mapped 37 = .ok (.aload_n 0, 1) := by decide +kernel
theorem dX4_mapped_38 : decode cX4_mapped 38 = .ok (.getfield 21, 3) := by decide +kernel
theorem dX4_mapped_41 : decode cX4_mapped 41 = .ok (.getfield 142, 3) := by decide +kernel
theorem dX4_mapped_44 : decode cX4_mapped 44 = .ok (.iload_n 1, 1) := by decide +kernel
theorem dX4_mapped_45 : decode cX4_mapped 45 = .ok (.iaload, 1) := by decide +kernel
theorem dX4_mapped_46 : decode cX4_mapped 46 = .ok (.goto 5, 3) := by decide +kernel
theorem dX4_mapped_49 : decode cX4_mapped 49 = .ok (.bipush (-2), 2) := by decide +kernel
theorem dX4_mapped_51 : decode cX4_mapped 51 = .ok (.ireturn, 1) := by decide +kernel
theorem dX4_seal_0 : decode cX4_seal 0 = .ok (.aload_n 0, 1) := by decide +kernel
theorem dX4_seal_1 : decode cX4_seal 1 = .ok (.getfield 28, 3) := by decide +kernel
theorem dX4_seal_4 : decode cX4_seal 4 = .ok (.invokevirtual 145, 3) := by decide +kernel
theorem dX4_seal_7 : decode cX4_seal 7 = .ok (.iconst 1, 1) := by decide +kernel
theorem dX4_seal_8 : decode cX4_seal 8 = .ok (.ireturn, 1) := by decide +kernel
theorem dX4_look_0 : decode cX4_look 0 = .ok (.aload_n 0, 1) := by decide +kernel
theorem dX4_look_1 : decode cX4_look 1 = .ok (.getfield 28, 3) := by decide +kernel
theorem dX4_look_4 : decode cX4_look 4 = .ok (.getfield 50, 3) := by decide +kernel
theorem dX4_look_7 : decode cX4_look 7 = .ok (.ifCond .eq 13, 3) := by decide +kernel
theorem dX4_look_10 : decode cX4_look 10 = .ok (.aload_n 0, 1) := by decide +kernel
theorem dX4_look_11 : decode cX4_look 11 = .ok (.getfield 28, 3) := by decide +kernel
theorem dX4_look_14 : decode cX4_look 14 = .ok (.invokevirtual 148, 3) := by decide +kernel
theorem dX4_look_17 : decode cX4_look 17 = .ok (.goto 5, 3) := by decide +kernel
theorem dX4_look_20 : decode cX4_look 20 = .ok (.bipush (-3), 2) := by decide +kernel
theorem dX4_look_22 : decode cX4_look 22 = .ok (.ireturn, 1) := by decide +kernel
theorem dX4_fade_0 : decode cX4_fade 0 = .ok (.iload_n 1, 1) := by decide +kernel
theorem dX4_fade_1 : decode cX4_fade 1 = .ok (.iconst 1, 1) := by decide +kernel
theorem dX4_fade_2 : decode cX4_fade 2 = .ok (.bipush 100, 2) := by decide +kernel
theorem dX4_fade_4 : decode cX4_fade 4 = .ok (.invokestatic 39, 3) := by decide +kernel
theorem dX4_fade_7 : decode cX4_fade 7 = .ok (.ifCond .ne 6, 3) := by decide +kernel
theorem dX4_fade_10 : decode cX4_fade 10 = .ok (.bipush (-2), 2) := by decide +kernel
theorem dX4_fade_12 : decode cX4_fade 12 = .ok (.ireturn, 1) := by decide +kernel
theorem dX4_fade_13 : decode cX4_fade 13 = .ok (.iconst 0, 1) := by decide +kernel
theorem dX4_fade_14 : decode cX4_fade 14 = .ok (.istore_n 2, 1) := by decide +kernel
