theorem dX4_fade_15 : decode cX4_fade 15 = .ok (.iconst 0, 1) := by decide +kernel
theorem dX4_fade_16 : decode cX4_fade 16 = .ok (.istore_n 3, 1) := by decide +kernel
theorem dX4_fade_17 : decode cX4_fade 17 = .ok (.iload_n 3, 1) := by decide +kernel
theorem dX4_fade_18 : decode cX4_fade 18 = .ok (.iload_n 1, 1) := by decide +kernel
theorem dX4_fade_19 : decode cX4_fade 19 = .ok (.if_icmp .ge 19, 3) := by decide +kernel
theorem dX4_fade_22 : decode cX4_fade 22 = .ok (.iload_n 2, 1) := by decide +kernel
theorem dX4_fade_23 : decode cX4_fade 23 = .ok (.aload_n 0, 1) := by decide +kernel
theorem dX4_fade_24 : decode cX4_fade 24 = .ok (.getfield 10, 3) := by decide +kernel
theorem dX4_fade_27 : decode cX4_fade 27 = .ok (.invokevirtual 151, 3) := by decide +kernel
theorem dX4_fade_30 : decode cX4_fade 30 = .ok (.iadd, 1) := by decide +kernel
theorem dX4_fade_31 : decode cX4_fade 31 = .ok (.istore_n 2, 1) := by decide +kernel
theorem dX4_fade_32 : decode cX4_fade 32 = .ok (.iinc 3 1, 3) := by decide +kernel
theorem dX4_fade_35 : decode cX4_fade 35 = .ok (.goto (-18), 3) := by decide +kernel
theorem dX4_fade_38 : decode cX4_fade 38 = .ok (.iload_n 2, 1) := by decide +kernel
theorem dX4_fade_39 : decode cX4_fade 39 = .ok (.ireturn, 1) := by decide +kernel
theorem dX4_pulse_0 : decode cX4_pulse 0 = .ok (.aload_n 0, 1) := by decide +kernel
theorem dX4_pulse_1 : decode cX4_pulse 1 = .ok (.getfield 10, 3) := by decide +kernel
theorem dX4_pulse_4 : decode cX4_pulse 4 = .ok (.iload_n 1, 1) := by decide +kernel
theorem dX4_pulse_5 : decode cX4_pulse 5 = .ok (.iload_n 2, 1) := by decide +kernel
theorem dX4_pulse_6 : decode cX4_pulse 6 = .ok (.invokevirtual 54, 3) := by decide +kernel
theorem dX4_pulse_9 : decode cX4_pulse 9 = .ok (.ifCond .eq 18, 3) := by decide +kernel
theorem dX4_pulse_12 : decode cX4_pulse 12 = .ok (.iload_n 3, 1) := by decide +kernel
theorem dX4_pulse_13 : decode cX4_pulse 13 = .ok (.iconst 0, 1) := by decide +kernel
theorem dX4_pulse_14 : decode cX4_pulse 14 = .ok (.aload_n 0, 1) := by decide +kernel
theorem dX4_pulse_15 : decode cX4_pulse 15 = .ok (.getfield 10, 3) := by decide +kernel
theorem dX4_pulse_18 : decode cX4_pulse 18 = .ok (.getfield 58, 3) := by decide +kernel
theorem dX4_pulse_21 : decode cX4_pulse 21 = .ok (.invokestatic 39, 3) := by decide +kernel
theorem dX4_pulse_24 : decode cX4_pulse 24 = .ok (.ifCond .ne 6, 3) := by decide +kernel
theorem dX4_pulse_27 : decode cX4_pulse 27 = .ok (.bipush (-2), 2) := by decide +kernel
theorem dX4_pulse_29 : decode cX4_pulse 29 = .ok (.ireturn, 1) := by decide +kernel
theorem dX4_pulse_30 : decode cX4_pulse 30 = .ok (.aload_n 0, 1) := by decide +kernel
theorem dX4_pulse_31 : decode cX4_pulse 31 = .ok (.getfield 10, 3) := by decide +kernel
theorem dX4_pulse_34 : decode cX4_pulse 34 = .ok (.iload_n 1, 1) := by decide +kernel
theorem dX4_pulse_35 : decode cX4_pulse 35 = .ok (.iload_n 2, 1) := by decide +kernel
theorem dX4_pulse_36 : decode cX4_pulse 36 = .ok (.invokevirtual 62, 3) := by decide +kernel
theorem dX4_pulse_39 : decode cX4_pulse 39 = .ok (.istore 4, 2) := by decide +kernel
theorem dX4_pulse_41 : decode cX4_pulse 41 = .ok (.aload_n 0, 1) := by decide +kernel
theorem dX4_pulse_42 : decode cX4_pulse 42 = .ok (.getfield 10, 3) := by decide +kernel
theorem dX4_pulse_45 : decode cX4_pulse 45 = .ok (.iload 4, 2) := by decide +kernel
theorem dX4_pulse_47 : decode cX4_pulse 47 = .ok (.invokevirtual 154, 3) := by decide +kernel
theorem dX4_pulse_50 : decode cX4_pulse 50 = .ok (.ifCond .eq 8, 3) := by decide +kernel
theorem dX4_pulse_53 : decode cX4_pulse 53 = .ok (.bipush (-3), 2) := by decide +kernel
theorem dX4_pulse_55 : decode cX4_pulse 55 = .ok (.goto 13, 3) := by decide +kernel
theorem dX4_pulse_58 : decode cX4_pulse 58 = .ok (.aload_n 0, 1) := by decide +kernel
theorem dX4_pulse_59 : decode cX4_pulse 59 = .ok (.getfield 10, 3) := by decide +kernel
theorem dX4_pulse_62 : decode cX4_pulse 62 = .ok (.iload 4, 2) := by decide +kernel
theorem dX4_pulse_64 : decode cX4_pulse 64 = .ok (.iload_n 3, 1) := by decide +kernel
theorem dX4_pulse_65 : decode cX4_pulse 65 = .ok (.invokevirtual 158, 3) := by decide +kernel
theorem dX4_pulse_68 : decode cX4_pulse 68 = .ok (.ireturn, 1) := by decide +kernel
theorem dX4_find_0 : decode cX4_find 0 = .ok (.iload_n 1, 1) := by decide +kernel
theorem dX4_find_1 : decode cX4_find 1 = .ok (.iconst 1, 1) := by decide +kernel
theorem dX4_find_2 : decode cX4_find 2 = .ok (.iconst 3, 1) := by decide +kernel
theorem dX4_find_3 : decode cX4_find 3 = .ok (.invokestatic 39, 3) := by decide +kernel
theorem dX4_find_6 : decode cX4_find 6 = .ok (.ifCond .eq 24, 3) := by decide +kernel
theorem dX4_find_9 : decode cX4_find 9 = .ok (.iload_n 2, 1) := by decide +kernel
theorem dX4_find_10 : decode cX4_find 10 = .ok (.iload_n 1, 1) := by decide +kernel
theorem dX4_find_11 : decode cX4_find 11 = .ok (.iconst 5, 1) := by decide +kernel
theorem dX4_find_12 : decode cX4_find 12 = .ok (.invokestatic 39, 3) := by decide +kernel
theorem dX4_find_15 : decode cX4_find 15 = .ok (.ifCond .eq 15, 3) := by decide +kernel
theorem dX4_find_18 : decode cX4_find 18 = .ok (.iload_n 3, 1) := by decide +kernel
theorem dX4_find_19 : decode cX4_find 19 = .ok (.iconst 0, 1) := by decide +kernel
theorem dX4_find_20 : decode cX4_find 20 = .ok (.iload_n 1, 1) := by decide +kernel
theorem dX4_find_21 : decode cX4_find 21 = .ok (.invokestatic 161, 3) := by decide +kernel
theorem dX4_find_24 : decode cX4_find 24 = .ok (.invokestatic 39, 3) := by decide +kernel
theorem dX4_find_27 : decode cX4_find 27 = .ok (.ifCond .ne 6, 3) := by decide +kernel
theorem dX4_find_30 : decode cX4_find 30 = .ok (.bipush (-2), 2) := by decide +kernel
theorem dX4_find_32 : decode cX4_find 32 = .ok (.ireturn, 1) := by decide +kernel
theorem dX4_find_33 : decode cX4_find 33 = .ok (.aload_n 0, 1) := by decide +kernel
theorem dX4_find_34 : decode cX4_find 34 = .ok (.getfield 35, 3) := by decide +kernel
theorem dX4_find_37 : decode cX4_find 37 = .ok (.iload_n 1, 1) := by decide +kernel
theorem dX4_find_38 : decode cX4_find 38 = .ok (.iload_n 2, 1) := by decide +kernel
theorem dX4_find_39 : decode cX4_find 39 = .ok (.iload_n 3, 1) := by decide +kernel
theorem dX4_find_40 : decode cX4_find 40 = .ok (.invokevirtual 164, 3) := by decide +kernel
theorem dX4_find_43 : decode cX4_find 43 = .ok (.ireturn, 1) := by decide +kernel
theorem dX4_actAt_0 : decode cX4_actAt 0 = .ok (.iload_n 2, 1) := by decide +kernel
theorem dX4_actAt_1 : decode cX4_actAt 1 = .ok (.iconst 0, 1) := by decide +kernel
theorem dX4_actAt_2 : decode cX4_actAt 2 = .ok (.iconst 2, 1) := by decide +kernel
theorem dX4_actAt_3 : decode cX4_actAt 3 = .ok (.invokestatic 39, 3) := by decide +kernel
theorem dX4_actAt_6 : decode cX4_actAt 6 = .ok (.ifCond .ne 6, 3) := by decide +kernel
theorem dX4_actAt_9 : decode cX4_actAt 9 = .ok (.bipush (-2), 2) := by decide +kernel
theorem dX4_actAt_11 : decode cX4_actAt 11 = .ok (.ireturn, 1) := by decide +kernel
theorem dX4_actAt_12 : decode cX4_actAt 12 = .ok (.iload_n 1, 1) := by decide +kernel
theorem dX4_actAt_13 : decode cX4_actAt 13 = .ok (.iconst 0, 1) := by decide +kernel
theorem dX4_actAt_14 : decode cX4_actAt 14 = .ok (.aload_n 0, 1) := by decide +kernel
theorem dX4_actAt_15 : decode cX4_actAt 15 = .ok (.getfield 35, 3) := by decide +kernel
theorem dX4_actAt_18 : decode cX4_actAt 18 = .ok (.getfield 167, 3) := by decide +kernel
theorem dX4_actAt_21 : decode cX4_actAt 21 = .ok (.iconst 1, 1) := by decide +kernel
theorem dX4_actAt_22 : decode cX4_actAt 22 = .ok (.isub, 1) := by decide +kernel
theorem dX4_actAt_23 : decode cX4_actAt 23 = .ok (.invokestatic 39, 3) := by decide +kernel
theorem dX4_actAt_26 : decode cX4_actAt 26 = .ok (.ifCond .eq 19, 3) := by decide +kernel
theorem dX4_actAt_29 : decode cX4_actAt 29 = .ok (.aload_n 0, 1) := by decide +kernel
theorem dX4_actAt_30 : decode cX4_actAt 30 = .ok (.getfield 35, 3) := by decide +kernel
theorem dX4_actAt_33 : decode cX4_actAt 33 = .ok (.getfield 170, 3) := by decide +kernel
theorem dX4_actAt_36 : decode cX4_actAt 36 = .ok (.iload_n 1, 1) := by decide +kernel
theorem dX4_actAt_37 : decode cX4_actAt 37 = .ok (.iaload, 1) := by decide +kernel
theorem dX4_actAt_38 : decode cX4_actAt 38 = .ok (.iload_n 2, 1) := by decide +kernel
theorem dX4_actAt_39 : decode cX4_actAt 39 = .ok (.invokestatic 173, 3) := by decide +kernel
theorem dX4_actAt_42 : decode cX4_actAt 42 = .ok (.goto 4, 3) := by decide +kernel
theorem dX4_actAt_45 : decode cX4_actAt 45 = .ok (.iconst (-1), 1) := by decide +kernel
theorem dX4_actAt_46 : decode cX4_actAt 46 = .ok (.ireturn, 1) := by decide +kernel
theorem dX4_where_0 : decode cX4_where 0 = .ok (.aload_n 0, 1) := by decide +kernel
theorem dX4_where_1 : decode cX4_where 1 = .ok (.getfield 35, 3) := by decide +kernel
theorem dX4_where_4 : decode cX4_where 4 = .ok (.getfield 176, 3) := by decide +kernel
theorem dX4_where_7 : decode cX4_where 7 = .ok (.ireturn, 1) := by decide +kernel
theorem dX4_met_0 : decode cX4_met 0 = .ok (.aload_n 0, 1) := by decide +kernel
theorem dX4_met_1 : decode cX4_met 1 = .ok (.getfield 35, 3) := by decide +kernel
theorem dX4_met_4 : decode cX4_met 4 = .ok (.getfield 179, 3) := by decide +kernel
theorem dX4_met_7 : decode cX4_met 7 = .ok (.ireturn, 1) := by decide +kernel
theorem dX4_count_0 : decode cX4_count 0 = .ok (.iload_n 1, 1) := by decide +kernel
theorem dX4_count_1 : decode cX4_count 1 = .ok (.tableswitch 139 0 8 #[51, 59, 67, 75, 83, 91, 99, 107, 123], 51) := by decide +kernel
theorem dX4_count_52 : decode cX4_count 52 = .ok (.aload_n 0, 1) := by decide +kernel
theorem dX4_count_53 : decode cX4_count 53 = .ok (.getfield 10, 3) := by decide +kernel
theorem dX4_count_56 : decode cX4_count 56 = .ok (.getfield 79, 3) := by decide +kernel
theorem dX4_count_59 : decode cX4_count 59 = .ok (.ireturn, 1) := by decide +kernel
theorem dX4_count_60 : decode cX4_count 60 = .ok (.aload_n 0, 1) := by decide +kernel
theorem dX4_count_61 : decode cX4_count 61 = .ok (.getfield 10, 3) := by decide +kernel
theorem dX4_count_64 : decode cX4_count 64 = .ok (.getfield 89, 3) := by decide +kernel
theorem dX4_count_67 : decode cX4_count 67 = .ok (.ireturn, 1) := by decide +kernel
theorem dX4_count_68 : decode cX4_count 68 = .ok (.aload_n 0, 1) := by decide +kernel
theorem dX4_count_69 : decode cX4_count 69 = .ok (.getfield 10, 3) := by decide +kernel
theorem dX4_count_72 : decode cX4_count 72 = .ok (.getfield 58, 3) := by decide +kernel
theorem dX4_count_75 : decode cX4_count 75 = .ok (.ireturn, 1) := by decide +kernel
theorem dX4_count_76 : decode cX4_count 76 = .ok (.aload_n 0, 1) := by decide +kernel
theorem dX4_count_77 : decode cX4_count 77 = .ok (.getfield 10, 3) := by decide +kernel
theorem dX4_count_80 : decode cX4_count 80 = .ok (.invokevirtual 182, 3) := by decide +kernel
theorem dX4_count_83 : decode cX4_count 83 = .ok (.ireturn, 1) := by decide +kernel
theorem dX4_count_84 : decode cX4_count 84 = .ok (.aload_n 0, 1) := by decide +kernel
theorem dX4_count_85 : decode cX4_count 85 = .ok (.getfield 21, 3) := by decide +kernel
theorem dX4_count_88 : decode cX4_count 88 = .ok (.getfield 102, 3) := by decide +kernel
theorem dX4_count_91 : decode cX4_count 91 = .ok (.ireturn, 1) := by decide +kernel
theorem dX4_count_92 : decode cX4_count 92 = .ok (.aload_n 0, 1) := by decide +kernel
theorem dX4_count_93 : decode cX4_count 93 = .ok (.getfield 21, 3) := by decide +kernel
theorem dX4_count_96 : decode cX4_count 96 = .ok (.getfield 105, 3) := by decide +kernel
theorem dX4_count_99 : decode cX4_count 99 = .ok (.ireturn, 1) := by decide +kernel
theorem dX4_count_100 : decode cX4_count 100 = .ok (.aload_n 0, 1) := by decide +kernel
theorem dX4_count_101 : decode cX4_count 101 = .ok (.getfield 21, 3) := by decide +kernel
theorem dX4_count_104 : decode cX4_count 104 = .ok (.getfield 185, 3) := by decide +kernel
theorem dX4_count_107 : decode cX4_count 107 = .ok (.ireturn, 1) := by decide +kernel
theorem dX4_count_108 : decode cX4_count 108 = .ok (.aload_n 0, 1) := by decide +kernel
theorem dX4_count_109 : decode cX4_count 109 = .ok (.getfield 21, 3) := by decide +kernel
theorem dX4_count_112 : decode cX4_count 112 = .ok (.getfield 124, 3) := by decide +kernel
theorem dX4_count_115 : decode cX4_count 115 = .ok (.ifCond .eq 7, 3) := by decide +kernel
theorem dX4_count_118 : decode cX4_count 118 = .ok (.iconst 1, 1) := by decide +kernel
theorem dX4_count_119 : decode cX4_count 119 = .ok (.goto 4, 3) := by decide +kernel
theorem dX4_count_122 : decode cX4_count 122 = .ok (.iconst 0, 1) := by decide +kernel
theorem dX4_count_123 : decode cX4_count 123 = .ok (.ireturn, 1) := by decide +kernel
theorem dX4_count_124 : decode cX4_count 124 = .ok (.aload_n 0, 1) := by decide +kernel
theorem dX4_count_125 : decode cX4_count 125 = .ok (.getfield 28, 3) := by decide +kernel
theorem dX4_count_128 : decode cX4_count 128 = .ok (.getfield 50, 3) := by decide +kernel
theorem dX4_count_131 : decode cX4_count 131 = .ok (.ifCond .eq 7, 3) := by decide +kernel
theorem dX4_count_134 : decode cX4_count 134 = .ok (.iconst 1, 1) := by decide +kernel
theorem dX4_count_135 : decode cX4_count 135 = .ok (.goto 4, 3) := by decide +kernel
theorem dX4_count_138 : decode cX4_count 138 = .ok (.iconst 0, 1) := by decide +kernel
theorem dX4_count_139 : decode cX4_count 139 = .ok (.ireturn, 1) := by decide +kernel
theorem dX4_count_140 : decode cX4_count 140 = .ok (.bipush (-2), 2) := by decide +kernel
theorem dX4_count_142 : decode cX4_count 142 = .ok (.ireturn, 1) := by decide +kernel
theorem dX4_digest_0 : decode cX4_digest 0 = .ok (.ldc2_w 188, 3) := by decide +kernel
theorem dX4_digest_3 : decode cX4_digest 3 = .ok (.lstore_n 1, 1) := by decide +kernel
theorem dX4_digest_4 : decode cX4_digest 4 = .ok (.iconst 0, 1) := by decide +kernel
theorem dX4_digest_5 : decode cX4_digest 5 = .ok (.istore_n 3, 1) := by decide +kernel
theorem dX4_digest_6 : decode cX4_digest 6 = .ok (.iload_n 3, 1) := by decide +kernel
theorem dX4_digest_7 : decode cX4_digest 7 = .ok (.bipush 9, 2) := by decide +kernel
theorem dX4_digest_9 : decode cX4_digest 9 = .ok (.if_icmp .ge 22, 3) := by decide +kernel
theorem dX4_digest_12 : decode cX4_digest 12 = .ok (.ldc2_w 190, 3) := by decide +kernel
theorem dX4_digest_15 : decode cX4_digest 15 = .ok (.lload_n 1, 1) := by decide +kernel
theorem dX4_digest_16 : decode cX4_digest 16 = .ok (.lmul, 1) := by decide +kernel
theorem dX4_digest_17 : decode cX4_digest 17 = .ok (.aload_n 0, 1) := by decide +kernel
theorem dX4_digest_18 : decode cX4_digest 18 = .ok (.iload_n 3, 1) := by decide +kernel
theorem dX4_digest_19 : decode cX4_digest 19 = .ok (.invokevirtual 192, 3) := by decide +kernel
theorem dX4_digest_22 : decode cX4_digest 22 = .ok (.i2l, 1) := by decide +kernel
theorem dX4_digest_23 : decode cX4_digest 23 = .ok (.ladd, 1) := by decide +kernel
theorem dX4_digest_24 : decode cX4_digest 24 = .ok (.lstore_n 1, 1) := by decide +kernel
theorem dX4_digest_25 : decode cX4_digest 25 = .ok (.iinc 3 1, 3) := by decide +kernel
theorem dX4_digest_28 : decode cX4_digest 28 = .ok (.goto (-22), 3) := by decide +kernel
theorem dX4_digest_31 : decode cX4_digest 31 = .ok (.aload_n 0, 1) := by decide +kernel
theorem dX4_digest_32 : decode cX4_digest 32 = .ok (.getfield 10, 3) := by decide +kernel
theorem dX4_digest_35 : decode cX4_digest 35 = .ok (.lload_n 1, 1) := by decide +kernel
theorem dX4_digest_36 : decode cX4_digest 36 = .ok (.invokevirtual 195, 3) := by decide +kernel
theorem dX4_digest_39 : decode cX4_digest 39 = .ok (.lstore_n 1, 1) := by decide +kernel
theorem dX4_digest_40 : decode cX4_digest 40 = .ok (.aload_n 0, 1) := by decide +kernel
theorem dX4_digest_41 : decode cX4_digest 41 = .ok (.getfield 21, 3) := by decide +kernel
theorem dX4_digest_44 : decode cX4_digest 44 = .ok (.lload_n 1, 1) := by decide +kernel
theorem dX4_digest_45 : decode cX4_digest 45 = .ok (.invokevirtual 199, 3) := by decide +kernel
theorem dX4_digest_48 : decode cX4_digest 48 = .ok (.lstore_n 1, 1) := by decide +kernel
theorem dX4_digest_49 : decode cX4_digest 49 = .ok (.aload_n 0, 1) := by decide +kernel
theorem dX4_digest_50 : decode cX4_digest 50 = .ok (.getfield 35, 3) := by decide +kernel
theorem dX4_digest_53 : decode cX4_digest 53 = .ok (.lload_n 1, 1) := by decide +kernel
theorem dX4_digest_54 : decode cX4_digest 54 = .ok (.invokevirtual 200, 3) := by decide +kernel
theorem dX4_digest_57 : decode cX4_digest 57 = .ok (.lreturn, 1) := by decide +kernel
theorem dX4_within_0 : decode cX4_within 0 = .ok (.iload_n 0, 1) := by decide +kernel
theorem dX4_within_1 : decode cX4_within 1 = .ok (.iload_n 1, 1) := by decide +kernel
theorem dX4_within_2 : decode cX4_within 2 = .ok (.if_icmp .lt 12, 3) := by decide +kernel
theorem dX4_within_5 : decode cX4_within 5 = .ok (.iload_n 0, 1) := by decide +kernel
theorem dX4_within_6 : decode cX4_within 6 = .ok (.iload_n 2, 1) := by decide +kernel
theorem dX4_within_7 : decode cX4_within 7 = .ok (.if_icmp .gt 7, 3) := by decide +kernel
theorem dX4_within_10 : decode cX4_within 10 = .ok (.iconst 1, 1) := by decide +kernel
theorem dX4_within_11 : decode cX4_within 11 = .ok (.goto 4, 3) := by decide +kernel
theorem dX4_within_14 : decode cX4_within 14 = .ok (.iconst 0, 1) := by decide +kernel
theorem dX4_within_15 : decode cX4_within 15 = .ok (.ireturn, 1) := by decide +kernel
theorem dX4_fullTable_0 : decode cX4_fullTable 0 = .ok (.iconst 1, 1) := by decide +kernel
theorem dX4_fullTable_1 : decode cX4_fullTable 1 = .ok (.iconst 1, 1) := by decide +kernel
theorem dX4_fullTable_2 : decode cX4_fullTable 2 = .ok (.iload_n 0, 1) := by decide +kernel
theorem dX4_fullTable_3 : decode cX4_fullTable 3 = .ok (.ishl, 1) := by decide +kernel
theorem dX4_fullTable_4 : decode cX4_fullTable 4 = .ok (.ishl, 1) := by decide +kernel
theorem dX4_fullTable_5 : decode cX4_fullTable 5 = .ok (.iconst 1, 1) := by decide +kernel
theorem dX4_fullTable_6 : decode cX4_fullTable 6 = .ok (.isub, 1) := by decide +kernel
theorem dX4_fullTable_7 : decode cX4_fullTable 7 = .ok (.ireturn, 1) := by decide +kernel
theorem dX4_packAct_0 : decode cX4_packAct 0 = .ok (.iload_n 0, 1) := by decide +kernel
theorem dX4_packAct_1 : decode cX4_packAct 1 = .ok (.bipush 6, 2) := by decide +kernel
theorem dX4_packAct_3 : decode cX4_packAct 3 = .ok (.ishl, 1) := by decide +kernel
theorem dX4_packAct_4 : decode cX4_packAct 4 = .ok (.iload_n 1, 1) := by decide +kernel
theorem dX4_packAct_5 : decode cX4_packAct 5 = .ok (.iconst 3, 1) := by decide +kernel
theorem dX4_packAct_6 : decode cX4_packAct 6 = .ok (.ishl, 1) := by decide +kernel
theorem dX4_packAct_7 : decode cX4_packAct 7 = .ok (.ior, 1) := by decide +kernel
theorem dX4_packAct_8 : decode cX4_packAct 8 = .ok (.iload_n 2, 1) := by decide +kernel
theorem dX4_packAct_9 : decode cX4_packAct 9 = .ok (.ior, 1) := by decide +kernel
theorem dX4_packAct_10 : decode cX4_packAct 10 = .ok (.ireturn, 1) := by decide +kernel
theorem dX4_actPart_0 : decode cX4_actPart 0 = .ok (.iload_n 0, 1) := by decide +kernel
theorem dX4_actPart_1 : decode cX4_actPart 1 = .ok (.bipush 6, 2) := by decide +kernel
theorem dX4_actPart_3 : decode cX4_actPart 3 = .ok (.iconst 3, 1) := by decide +kernel
theorem dX4_actPart_4 : decode cX4_actPart 4 = .ok (.iload_n 1, 1) := by decide +kernel
theorem dX4_actPart_5 : decode cX4_actPart 5 = .ok (.imul, 1) := by decide +kernel
theorem dX4_actPart_6 : decode cX4_actPart 6 = .ok (.isub, 1) := by decide +kernel
theorem dX4_actPart_7 : decode cX4_actPart 7 = .ok (.ishr, 1) := by decide +kernel
theorem dX4_actPart_8 : decode cX4_actPart 8 = .ok (.bipush 7, 2) := by decide +kernel
theorem dX4_actPart_10 : decode cX4_actPart 10 = .ok (.iand, 1) := by decide +kernel
theorem dX4_actPart_11 : decode cX4_actPart 11 = .ok (.ireturn, 1) := by decide +kernel
theorem dX4_packVisit_0 : decode cX4_packVisit 0 = .ok (.iload_n 1, 1) := by decide +kernel
theorem dX4_packVisit_1 : decode cX4_packVisit 1 = .ok (.i2l, 1) := by decide +kernel
theorem dX4_packVisit_2 : decode cX4_packVisit 2 = .ok (.bipush 32, 2) := by decide +kernel
theorem dX4_packVisit_4 : decode cX4_packVisit 4 = .ok (.lshl, 1) := by decide +kernel
theorem dX4_packVisit_5 : decode cX4_packVisit 5 = .ok (.iload_n 2, 1) := by decide +kernel
theorem dX4_packVisit_6 : decode cX4_packVisit 6 = .ok (.bipush 16, 2) := by decide +kernel
theorem dX4_packVisit_8 : decode cX4_packVisit 8 = .ok (.ishl, 1) := by decide +kernel
theorem dX4_packVisit_9 : decode cX4_packVisit 9 = .ok (.i2l, 1) := by decide +kernel
theorem dX4_packVisit_10 : decode cX4_packVisit 10 = .ok (.lor, 1) := by decide +kernel
theorem dX4_packVisit_11 : decode cX4_packVisit 11 = .ok (.iload_n 0, 1) := by decide +kernel
theorem dX4_packVisit_12 : decode cX4_packVisit 12 = .ok (.i2l, 1) := by decide +kernel
theorem dX4_packVisit_13 : decode cX4_packVisit 13 = .ok (.lor, 1) := by decide +kernel
theorem dX4_packVisit_14 : decode cX4_packVisit 14 = .ok (.lreturn, 1) := by decide +kernel
theorem dX4_stateOf_0 : decode cX4_stateOf 0 = .ok (.lload_n 0, 1) := by decide +kernel
theorem dX4_stateOf_1 : decode cX4_stateOf 1 = .ok (.l2i, 1) := by decide +kernel
theorem dX4_stateOf_2 : decode cX4_stateOf 2 = .ok (.ldc 201, 2) := by decide +kernel
theorem dX4_stateOf_4 : decode cX4_stateOf 4 = .ok (.iand, 1) := by decide +kernel
theorem dX4_stateOf_5 : decode cX4_stateOf 5 = .ok (.ireturn, 1) := by decide +kernel
theorem dX4_cameBy_0 : decode cX4_cameBy 0 = .ok (.lload_n 0, 1) := by decide +kernel
theorem dX4_cameBy_1 : decode cX4_cameBy 1 = .ok (.l2i, 1) := by decide +kernel
theorem dX4_cameBy_2 : decode cX4_cameBy 2 = .ok (.bipush 16, 2) := by decide +kernel
theorem dX4_cameBy_4 : decode cX4_cameBy 4 = .ok (.ishr, 1) := by decide +kernel
theorem dX4_cameBy_5 : decode cX4_cameBy 5 = .ok (.ireturn, 1) := by decide +kernel
theorem dX4_cameFrom_0 : decode cX4_cameFrom 0 = .ok (.lload_n 0, 1) := by decide +kernel
theorem dX4_cameFrom_1 : decode cX4_cameFrom 1 = .ok (.bipush 32, 2) := by decide +kernel
theorem dX4_cameFrom_3 : decode cX4_cameFrom 3 = .ok (.lshr, 1) := by decide +kernel
theorem dX4_cameFrom_4 : decode cX4_cameFrom 4 = .ok (.l2i, 1) := by decide +kernel
theorem dX4_cameFrom_5 : decode cX4_cameFrom 5 = .ok (.ireturn, 1) := by decide +kernel
theorem dX5_in_0 : decode cX5_in 0 = .ok (.iload_n 0, 1) := by decide +kernel
theorem dX5_in_1 : decode cX5_in 1 = .ok (.iload_n 1, 1) := by decide +kernel
theorem dX5_in_2 : decode cX5_in 2 = .ok (.if_icmp .lt 12, 3) := by decide +kernel
theorem dX5_in_5 : decode cX5_in 5 = .ok (.iload_n 0, 1) := by decide +kernel
theorem dX5_in_6 : decode cX5_in 6 = .ok (.iload_n 2, 1) := by decide +kernel
theorem dX5_in_7 : decode cX5_in 7 = .ok (.if_icmp .gt 7, 3) := by decide +kernel
theorem dX5_in_10 : decode cX5_in 10 = .ok (.iconst 1, 1) := by decide +kernel
theorem dX5_in_11 : decode cX5_in 11 = .ok (.goto 4, 3) := by decide +kernel
theorem dX5_in_14 : decode cX5_in 14 = .ok (.iconst 0, 1) := by decide +kernel
theorem dX5_in_15 : decode cX5_in 15 = .ok (.ireturn, 1) := by decide +kernel
theorem dX5_init_0 : decode cX5_init 0 = .ok (.aload_n 0, 1) := by decide +kernel
theorem dX5_init_1 : decode cX5_init 1 = .ok (.invokespecial 1, 3) := by decide +kernel
theorem dX5_init_4 : decode cX5_init 4 = .ok (.aload_n 0, 1) := by decide +kernel
theorem dX5_init_5 : decode cX5_init 5 = .ok (.iconst 1, 1) := by decide +kernel
theorem dX5_init_6 : decode cX5_init 6 = .ok (.putfield 7, 3) := by decide +kernel
theorem dX5_init_9 : decode cX5_init 9 = .ok (.aload_n 0, 1) := by decide +kernel
theorem dX5_init_10 : decode cX5_init 10 = .ok (.iconst 1, 1) := by decide +kernel
theorem dX5_init_11 : decode cX5_init 11 = .ok (.putfield 13, 3) := by decide +kernel
theorem dX5_init_14 : decode cX5_init 14 = .ok (.aload_n 0, 1) := by decide +kernel
theorem dX5_init_15 : decode cX5_init 15 = .ok (.iconst 1, 1) := by decide +kernel
theorem dX5_init_16 : decode cX5_init 16 = .ok (.putfield 16, 3) := by decide +kernel
theorem dX5_init_19 : decode cX5_init 19 = .ok (.aload_n 0, 1) := by decide +kernel
theorem dX5_init_20 : decode cX5_init 20 = .ok (.sipush 192, 3) := by decide +kernel
theorem dX5_init_23 : decode cX5_init 23 = .ok (.newarray .int, 2) := by decide +kernel
theorem dX5_init_25 : decode cX5_init 25 = .ok (.putfield 19, 3) := by decide +kernel
theorem dX5_init_28 : decode cX5_init 28 = .ok (.aload_n 0, 1) := by decide +kernel
theorem dX5_init_29 : decode cX5_init 29 = .ok (.sipush 192, 3) := by decide +kernel
theorem dX5_init_32 : decode cX5_init 32 = .ok (.newarray .int, 2) := by decide +kernel
theorem dX5_init_34 : decode cX5_init 34 = .ok (.putfield 23, 3) := by decide +kernel
theorem dX5_init_37 : decode cX5_init 37 = .ok (.aload_n 0, 1) := by decide +kernel
theorem dX5_init_38 : decode cX5_init 38 = .ok (.sipush 192, 3) := by decide +kernel
theorem dX5_init_41 : decode cX5_init 41 = .ok (.newarray .int, 2) := by decide +kernel
theorem dX5_init_43 : decode cX5_init 43 = .ok (.putfield 26, 3) := by decide +kernel
theorem dX5_init_46 : decode cX5_init 46 = .ok (.aload_n 0, 1) := by decide +kernel
theorem dX5_init_47 : decode cX5_init 47 = .ok (.bipush 8, 2) := by decide +kernel
theorem dX5_init_49 : decode cX5_init 49 = .ok (.newarray .int, 2) := by decide +kernel
theorem dX5_init_51 : decode cX5_init 51 = .ok (.putfield 29, 3) := by decide +kernel
theorem dX5_init_54 : decode cX5_init 54 = .ok (.aload_n 0, 1) := by decide +kernel
theorem dX5_init_55 : decode cX5_init 55 = .ok (.bipush 16, 2) := by decide +kernel
theorem dX5_init_57 : decode cX5_init 57 = .ok (.putfield 32, 3) := by decide +kernel
theorem dX5_init_60 : decode cX5_init 60 = .ok (.aload_n 0, 1) := by decide +kernel
theorem dX5_init_61 : decode cX5_init 61 = .ok (.bipush 96, 2) := by decide +kernel
theorem dX5_init_63 : decode cX5_init 63 = .ok (.newarray .int, 2) := by decide +kernel
theorem dX5_init_65 : decode cX5_init 65 = .ok (.putfield 35, 3) := by decide +kernel
theorem dX5_init_68 : decode cX5_init 68 = .ok (.aload_n 0, 1) := by decide +kernel
theorem dX5_init_69 : decode cX5_init 69 = .ok (.bipush 8, 2) := by decide +kernel
theorem dX5_init_71 : decode cX5_init 71 = .ok (.newarray .int, 2) := by decide +kernel
theorem dX5_init_73 : decode cX5_init 73 = .ok (.putfield 38, 3) := by decide +kernel
theorem dX5_init_76 : decode cX5_init 76 = .ok (.aload_n 0, 1) := by decide +kernel
theorem dX5_init_77 : decode cX5_init 77 = .ok (.bipush 8, 2) := by decide +kernel
theorem dX5_init_79 : decode cX5_init 79 = .ok (.newarray .int, 2) := by decide +kernel
theorem dX5_init_81 : decode cX5_init 81 = .ok (.putfield 41, 3) := by decide +kernel
theorem dX5_init_84 : decode cX5_init 84 = .ok (.aload_n 0, 1) := by decide +kernel
theorem dX5_init_85 : decode cX5_init 85 = .ok (.bipush 8, 2) := by decide +kernel
theorem dX5_init_87 : decode cX5_init 87 = .ok (.newarray .int, 2) := by decide +kernel
theorem dX5_init_89 : decode cX5_init 89 = .ok (.putfield 44, 3) := by decide +kernel
theorem dX5_init_92 : decode cX5_init 92 = .ok (.aload_n 0, 1) := by decide +kernel
theorem dX5_init_93 : decode cX5_init 93 = .ok (.bipush 64, 2) := by decide +kernel
theorem dX5_init_95 : decode cX5_init 95 = .ok (.newarray .int, 2) := by decide +kernel
theorem dX5_init_97 : decode cX5_init 97 = .ok (.putfield 47, 3) := by decide +kernel
theorem dX5_init_100 : decode cX5_init 100 = .ok (.aload_n 0, 1) := by decide +kernel
theorem dX5_init_101 : decode cX5_init 101 = .ok (.bipush 8, 2) := by decide +kernel
theorem dX5_init_103 : decode cX5_init 103 = .ok (.newarray .int, 2) := by decide +kernel
theorem dX5_init_105 : decode cX5_init 105 = .ok (.putfield 50, 3) := by decide +kernel
theorem dX5_init_108 : decode cX5_init 108 = .ok (.aload_n 0, 1) := by decide +kernel
theorem dX5_init_109 : decode cX5_init 109 = .ok (.bipush 8, 2) := by decide +kernel
theorem dX5_init_111 : decode cX5_init 111 = .ok (.newarray .int, 2) := by decide +kernel
theorem dX5_init_113 : decode cX5_init 113 = .ok (.putfield 53, 3) := by decide +kernel
theorem dX5_init_116 : decode cX5_init 116 = .ok (.aload_n 0, 1) := by decide +kernel
theorem dX5_init_117 : decode cX5_init 117 = .ok (.bipush 9, 2) := by decide +kernel
theorem dX5_init_119 : decode cX5_init 119 = .ok (.newarray .int, 2) := by decide +kernel
theorem dX5_init_121 : decode cX5_init 121 = .ok (.putfield 56, 3) := by decide +kernel
theorem dX5_init_124 : decode cX5_init 124 = .ok (.aload_n 0, 1) := by decide +kernel
theorem dX5_init_125 : decode cX5_init 125 = .ok (.sipush 8000, 3) := by decide +kernel
theorem dX5_init_128 : decode cX5_init 128 = .ok (.newarray .long, 2) := by decide +kernel
theorem dX5_init_130 : decode cX5_init 130 = .ok (.putfield 59, 3) := by decide +kernel
theorem dX5_init_133 : decode cX5_init 133 = .ok (.aload_n 0, 1) := by decide +kernel
theorem dX5_init_134 : decode cX5_init 134 = .ok (.sipush 8000, 3) := by decide +kernel
theorem dX5_init_137 : decode cX5_init 137 = .ok (.newarray .int, 2) := by decide +kernel
theorem dX5_init_139 : decode cX5_init 139 = .ok (.putfield 63, 3) := by decide +kernel
theorem dX5_init_142 : decode cX5_init 142 = .ok (.aload_n 0, 1) := by decide +kernel
theorem dX5_init_143 : decode cX5_init 143 = .ok (.sipush 8000, 3) := by decide +kernel
theorem dX5_init_146 : decode cX5_init 146 = .ok (.newarray .int, 2) := by decide +kernel
theorem dX5_init_148 : decode cX5_init 148 = .ok (.putfield 66, 3) := by decide +kernel
theorem dX5_init_151 : decode cX5_init 151 = .ok (.aload_n 0, 1) := by decide +kernel
theorem dX5_init_152 : decode cX5_init 152 = .ok (.sipush 16384, 3) := by decide +kernel
theorem dX5_init_155 : decode cX5_init 155 = .ok (.newarray .int, 2) := by decide +kernel
theorem dX5_init_157 : decode cX5_init 157 = .ok (.putfield 69, 3) := by decide +kernel
theorem dX5_init_160 : decode cX5_init 160 = .ok (.aload_n 0, 1) := by decide +kernel
theorem dX5_init_161 : decode cX5_init 161 = .ok (.sipush 8000, 3) := by decide +kernel
theorem dX5_init_164 : decode cX5_init 164 = .ok (.newarray .int, 2) := by decide +kernel
theorem dX5_init_166 : decode cX5_init 166 = .ok (.putfield 72, 3) := by decide +kernel
theorem dX5_init_169 : decode cX5_init 169 = .ok (.aload_n 0, 1) := by decide +kernel
theorem dX5_init_170 : decode cX5_init 170 = .ok (.iconst (-1), 1) := by decide +kernel
theorem dX5_init_171 : decode cX5_init 171 = .ok (.putfield 75, 3) := by decide +kernel
theorem dX5_init_174 : decode cX5_init 174 = .ok (.aload_n 0, 1) := by decide +kernel
theorem dX5_init_175 : decode cX5_init 175 = .ok (.iconst 1, 1) := by decide +kernel
theorem dX5_init_176 : decode cX5_init 176 = .ok (.iconst 1, 1) := by decide +kernel
theorem dX5_init_177 : decode cX5_init 177 = .ok (.iconst 1, 1) := by decide +kernel
theorem dX5_init_178 : decode cX5_init 178 = .ok (.invokevirtual 78, 3) := by decide +kernel
theorem dX5_init_181 : decode cX5_init 181 = .ok (.return_, 1) := by decide +kernel
theorem dX5_begins_0 : decode cX5_begins 0 = .ok (.aload_n 0, 1) := by decide +kernel
theorem dX5_begins_1 : decode cX5_begins 1 = .ok (.iload_n 1, 1) := by decide +kernel
theorem dX5_begins_2 : decode cX5_begins 2 = .ok (.putfield 7, 3) := by decide +kernel
theorem dX5_begins_5 : decode cX5_begins 5 = .ok (.aload_n 0, 1) := by decide +kernel
theorem dX5_begins_6 : decode cX5_begins 6 = .ok (.iload_n 2, 1) := by decide +kernel
theorem dX5_begins_7 : decode cX5_begins 7 = .ok (.putfield 13, 3) := by decide +kernel
theorem dX5_begins_10 : decode cX5_begins 10 = .ok (.aload_n 0, 1) := by decide +kernel
theorem dX5_begins_11 : decode cX5_begins 11 = .ok (.iload_n 3, 1) := by decide +kernel
theorem dX5_begins_12 : decode cX5_begins 12 = .ok (.putfield 16, 3) := by decide +kernel
theorem dX5_begins_15 : decode cX5_begins 15 = .ok (.aload_n 0, 1) := by decide +kernel
theorem dX5_begins_16 : decode cX5_begins 16 = .ok (.bipush 16, 2) := by decide +kernel
theorem dX5_begins_18 : decode cX5_begins 18 = .ok (.putfield 32, 3) := by decide +kernel
theorem dX5_begins_21 : decode cX5_begins 21 = .ok (.aload_n 0, 1) := by decide +kernel
theorem dX5_begins_22 : decode cX5_begins 22 = .ok (.iconst 0, 1) := by decide +kernel
theorem dX5_begins_23 : decode cX5_begins 23 = .ok (.putfield 82, 3) := by decide +kernel
theorem dX5_begins_26 : decode cX5_begins 26 = .ok (.aload_n 0, 1) := by decide +kernel
theorem dX5_begins_27 : decode cX5_begins 27 = .ok (.iconst 0, 1) := by decide +kernel
theorem dX5_begins_28 : decode cX5_begins 28 = .ok (.putfield 85, 3) := by decide +kernel
theorem dX5_begins_31 : decode cX5_begins 31 = .ok (.aload_n 0, 1) := by decide +kernel
theorem dX5_begins_32 : decode cX5_begins 32 = .ok (.iconst 0, 1) := by decide +kernel
theorem dX5_begins_33 : decode cX5_begins 33 = .ok (.putfield 88, 3) := by decide +kernel
theorem dX5_begins_36 : decode cX5_begins 36 = .ok (.aload_n 0, 1) := by decide +kernel
theorem dX5_begins_37 : decode cX5_begins 37 = .ok (.iconst 0, 1) := by decide +kernel
theorem dX5_begins_38 : decode cX5_begins 38 = .ok (.putfield 91, 3) := by decide +kernel
theorem dX5_begins_41 : decode cX5_begins 41 = .ok (.aload_n 0, 1) := by decide +kernel
theorem dX5_begins_42 : decode cX5_begins 42 = .ok (.iconst 0, 1) := by decide +kernel
theorem dX5_begins_43 : decode cX5_begins 43 = .ok (.putfield 95, 3) := by decide +kernel
theorem dX5_begins_46 : decode cX5_begins 46 = .ok (.iconst 0, 1) := by decide +kernel
theorem dX5_begins_47 : decode cX5_begins 47 = .ok (.istore 4, 2) := by decide +kernel
theorem dX5_begins_49 : decode cX5_begins 49 = .ok (.iload 4, 2) := by decide +kernel
theorem dX5_begins_51 : decode cX5_begins 51 = .ok (.sipush 192, 3) := by decide +kernel
theorem dX5_begins_54 : decode cX5_begins 54 = .ok (.if_icmp .ge 33, 3) := by decide +kernel
theorem dX5_begins_57 : decode cX5_begins 57 = .ok (.aload_n 0, 1) := by decide +kernel
theorem dX5_begins_58 : decode cX5_begins 58 = .ok (.getfield 19, 3) := by decide +kernel
theorem dX5_begins_61 : decode cX5_begins 61 = .ok (.iload 4, 2) := by decide +kernel
theorem dX5_begins_63 : decode cX5_begins 63 = .ok (.iconst 0, 1) := by decide +kernel
theorem dX5_begins_64 : decode cX5_begins 64 = .ok (.iastore, 1) := by decide +kernel
theorem dX5_begins_65 : decode cX5_begins 65 = .ok (.aload_n 0, 1) := by decide +kernel
theorem dX5_begins_66 : decode cX5_begins 66 = .ok (.getfield 23, 3) := by decide +kernel
theorem dX5_begins_69 : decode cX5_begins 69 = .ok (.iload 4, 2) := by decide +kernel
theorem dX5_begins_71 : decode cX5_begins 71 = .ok (.iconst (-1), 1) := by decide +kernel
theorem dX5_begins_72 : decode cX5_begins 72 = .ok (.iastore, 1) := by decide +kernel
theorem dX5_begins_73 : decode cX5_begins 73 = .ok (.aload_n 0, 1) := by decide +kernel
theorem dX5_begins_74 : decode cX5_begins 74 = .ok (.getfield 26, 3) := by decide +kernel
theorem dX5_begins_77 : decode cX5_begins 77 = .ok (.iload 4, 2) := by decide +kernel
theorem dX5_begins_79 : decode cX5_begins 79 = .ok (.iconst 0, 1) := by decide +kernel
theorem dX5_begins_80 : decode cX5_begins 80 = .ok (.iastore, 1) := by decide +kernel
theorem dX5_begins_81 : decode cX5_begins 81 = .ok (.iinc 4 1, 3) := by decide +kernel
theorem dX5_begins_84 : decode cX5_begins 84 = .ok (.goto (-35), 3) := by decide +kernel
theorem dX5_begins_87 : decode cX5_begins 87 = .ok (.iconst 0, 1) := by decide +kernel
theorem dX5_begins_88 : decode cX5_begins 88 = .ok (.istore 4, 2) := by decide +kernel
theorem dX5_begins_90 : decode cX5_begins 90 = .ok (.iload 4, 2) := by decide +kernel
theorem dX5_begins_92 : decode cX5_begins 92 = .ok (.bipush 8, 2) := by decide +kernel
theorem dX5_begins_94 : decode cX5_begins 94 = .ok (.if_icmp .ge 17, 3) := by decide +kernel
theorem dX5_begins_97 : decode cX5_begins 97 = .ok (.aload_n 0, 1) := by decide +kernel
theorem dX5_begins_98 : decode cX5_begins 98 = .ok (.getfield 29, 3) := by decide +kernel
theorem dX5_begins_101 : decode cX5_begins 101 = .ok (.iload 4, 2) := by decide +kernel
theorem dX5_begins_103 : decode cX5_begins 103 = .ok (.iconst 0, 1) := by decide +kernel
theorem dX5_begins_104 : decode cX5_begins 104 = .ok (.iastore, 1) := by decide +kernel
theorem dX5_begins_105 : decode cX5_begins 105 = .ok (.iinc 4 1, 3) := by decide +kernel
theorem dX5_begins_108 : decode cX5_begins 108 = .ok (.goto (-18), 3) := by decide +kernel
theorem dX5_begins_111 : decode cX5_begins 111 = .ok (.return_, 1) := by decide +kernel
theorem dX5_mesh_0 : decode cX5_mesh 0 = .ok (.iload_n 1, 1) := by decide +kernel
theorem dX5_mesh_1 : decode cX5_mesh 1 = .ok (.iconst 1, 1) := by decide +kernel
theorem dX5_mesh_2 : decode cX5_mesh 2 = .ok (.bipush 8, 2) := by decide +kernel
theorem dX5_mesh_4 : decode cX5_mesh 4 = .ok (.invokestatic 98, 3) := by decide +kernel
theorem dX5_mesh_7 : decode cX5_mesh 7 = .ok (.ifCond .eq 23, 3) := by decide +kernel
theorem dX5_mesh_10 : decode cX5_mesh 10 = .ok (.iload_n 2, 1) := by decide +kernel
theorem dX5_mesh_11 : decode cX5_mesh 11 = .ok (.iconst 1, 1) := by decide +kernel
theorem dX5_mesh_12 : decode cX5_mesh 12 = .ok (.bipush 24, 2) := by decide +kernel
theorem dX5_mesh_14 : decode cX5_mesh 14 = .ok (.invokestatic 98, 3) := by decide +kernel
theorem dX5_mesh_17 : decode cX5_mesh 17 = .ok (.ifCond .eq 13, 3) := by decide +kernel
theorem dX5_mesh_20 : decode cX5_mesh 20 = .ok (.iload_n 3, 1) := by decide +kernel
theorem dX5_mesh_21 : decode cX5_mesh 21 = .ok (.iconst 1, 1) := by decide +kernel
theorem dX5_mesh_22 : decode cX5_mesh 22 = .ok (.bipush 15, 2) := by decide +kernel
theorem dX5_mesh_24 : decode cX5_mesh 24 = .ok (.invokestatic 98, 3) := by decide +kernel
theorem dX5_mesh_27 : decode cX5_mesh 27 = .ok (.ifCond .ne 6, 3) := by decide +kernel
theorem dX5_mesh_30 : decode cX5_mesh 30 = .ok (.bipush (-2), 2) := by decide +kernel
theorem dX5_mesh_32 : decode cX5_mesh 32 = .ok (.ireturn, 1) := by decide +kernel
theorem dX5_mesh_33 : decode cX5_mesh 33 = .ok (.aload_n 0, 1) := by decide +kernel
theorem dX5_mesh_34 : decode cX5_mesh 34 = .ok (.iload_n 1, 1) := by decide +kernel
theorem dX5_mesh_35 : decode cX5_mesh 35 = .ok (.iload_n 2, 1) := by decide +kernel
theorem dX5_mesh_36 : decode cX5_mesh 36 = .ok (.iload_n 3, 1) := by decide +kernel
theorem dX5_mesh_37 : decode cX5_mesh 37 = .ok (.invokevirtual 78, 3) := by decide +kernel
theorem dX5_mesh_40 : decode cX5_mesh 40 = .ok (.iconst 1, 1) := by decide +kernel
theorem dX5_mesh_41 : decode cX5_mesh 41 = .ok (.ireturn, 1) := by decide +kernel
theorem dX5_isCell_0 : decode cX5_isCell 0 = .ok (.iload_n 1, 1) := by decide +kernel
theorem dX5_isCell_1 : decode cX5_isCell 1 = .ok (.iconst 0, 1) := by decide +kernel
theorem dX5_isCell_2 : decode cX5_isCell 2 = .ok (.aload_n 0, 1) := by decide +kernel
theorem dX5_isCell_3 : decode cX5_isCell 3 = .ok (.getfield 7, 3) := by decide +kernel
theorem dX5_isCell_6 : decode cX5_isCell 6 = .ok (.iconst 1, 1) := by decide +kernel
theorem dX5_isCell_7 : decode cX5_isCell 7 = .ok (.isub, 1) := by decide +kernel
theorem dX5_isCell_8 : decode cX5_isCell 8 = .ok (.invokestatic 98, 3) := by decide +kernel
theorem dX5_isCell_11 : decode cX5_isCell 11 = .ok (.ifCond .eq 21, 3) := by decide +kernel
theorem dX5_isCell_14 : decode cX5_isCell 14 = .ok (.iload_n 2, 1) := by decide +kernel
theorem dX5_isCell_15 : decode cX5_isCell 15 = .ok (.iconst 0, 1) := by decide +kernel
theorem dX5_isCell_16 : decode cX5_isCell 16 = .ok (.aload_n 0, 1) := by decide +kernel
theorem dX5_isCell_17 : decode cX5_isCell 17 = .ok (.getfield 13, 3) := by decide +kernel
theorem dX5_isCell_20 : decode cX5_isCell 20 = .ok (.iconst 1, 1) := by decide +kernel
theorem dX5_isCell_21 : decode cX5_isCell 21 = .ok (.isub, 1) := by decide +kernel
theorem dX5_isCell_22 : decode cX5_isCell 22 = .ok (.invokestatic 98, 3) := by decide +kernel
theorem dX5_isCell_25 : decode cX5_isCell 25 = .ok (.ifCond .eq 7, 3) := by decide +kernel
theorem dX5_isCell_28 : decode cX5_isCell 28 = .ok (.iconst 1, 1) := by decide +kernel
theorem dX5_isCell_29 : decode cX5_isCell 29 = .ok (.goto 4, 3) := by decide +kernel
theorem dX5_isCell_32 : decode cX5_isCell 32 = .ok (.iconst 0, 1) := by decide +kernel
theorem dX5_isCell_33 : decode cX5_isCell 33 = .ok (.ireturn, 1) := by decide +kernel
theorem dX5_writes_0 : decode cX5_writes 0 = .ok (.aload_n 0, 1) := by decide +kernel
theorem dX5_writes_1 : decode cX5_writes 1 = .ok (.getfield 23, 3) := by decide +kernel
theorem dX5_writes_4 : decode cX5_writes 4 = .ok (.iload_n 1, 1) := by decide +kernel
theorem dX5_writes_5 : decode cX5_writes 5 = .ok (.iaload, 1) := by decide +kernel
theorem dX5_writes_6 : decode cX5_writes 6 = .ok (.iconst (-1), 1) := by decide +kernel
theorem dX5_writes_7 : decode cX5_writes 7 = .ok (.if_icmp .eq 15, 3) := by decide +kernel
theorem dX5_writes_10 : decode cX5_writes 10 = .ok (.aload_n 0, 1) := by decide +kernel
theorem dX5_writes_11 : decode cX5_writes 11 = .ok (.getfield 23, 3) := by decide +kernel
theorem dX5_writes_14 : decode cX5_writes 14 = .ok (.iload_n 1, 1) := by decide +kernel
theorem dX5_writes_15 : decode cX5_writes 15 = .ok (.iaload, 1) := by decide +kernel
theorem dX5_writes_16 : decode cX5_writes 16 = .ok (.iload_n 2, 1) := by decide +kernel
theorem dX5_writes_17 : decode cX5_writes 17 = .ok (.if_icmp .eq 5, 3) := by decide +kernel
theorem dX5_writes_20 : decode cX5_writes 20 = .ok (.iconst 0, 1) := by decide +kernel
theorem dX5_writes_21 : decode cX5_writes 21 = .ok (.ireturn, 1) := by decide +kernel
theorem dX5_writes_22 : decode cX5_writes 22 = .ok (.aload_n 0, 1) := by decide +kernel
theorem dX5_writes_23 : decode cX5_writes 23 = .ok (.getfield 19, 3) := by decide +kernel
theorem dX5_writes_26 : decode cX5_writes 26 = .ok (.iload_n 1, 1) := by decide +kernel
theorem dX5_writes_27 : decode cX5_writes 27 = .ok (.iload_n 2, 1) := by decide +kernel
theorem dX5_writes_28 : decode cX5_writes 28 = .ok (.iastore, 1) := by decide +kernel
theorem dX5_writes_29 : decode cX5_writes 29 = .ok (.aload_n 0, 1) := by decide +kernel
theorem dX5_writes_30 : decode cX5_writes 30 = .ok (.getfield 26, 3) := by decide +kernel
theorem dX5_writes_33 : decode cX5_writes 33 = .ok (.iload_n 1, 1) := by decide +kernel
theorem dX5_writes_34 : decode cX5_writes 34 = .ok (.iconst 0, 1) := by decide +kernel
theorem dX5_writes_35 : decode cX5_writes 35 = .ok (.iastore, 1) := by decide +kernel
theorem dX5_writes_36 : decode cX5_writes 36 = .ok (.iconst 1, 1) := by decide +kernel
theorem dX5_writes_37 : decode cX5_writes 37 = .ok (.ireturn, 1) := by decide +kernel
theorem dX5_write_0 : decode cX5_write 0 = .ok (.aload_n 0, 1) := by decide +kernel
theorem dX5_write_1 : decode cX5_write 1 = .ok (.iload_n 1, 1) := by decide +kernel
theorem dX5_write_2 : decode cX5_write 2 = .ok (.iload_n 2, 1) := by decide +kernel
theorem dX5_write_3 : decode cX5_write 3 = .ok (.invokevirtual 102, 3) := by decide +kernel
theorem dX5_write_6 : decode cX5_write 6 = .ok (.ifCond .eq 15, 3) := by decide +kernel
theorem dX5_write_9 : decode cX5_write 9 = .ok (.iload_n 3, 1) := by decide +kernel
theorem dX5_write_10 : decode cX5_write 10 = .ok (.iconst 0, 1) := by decide +kernel
theorem dX5_write_11 : decode cX5_write 11 = .ok (.aload_n 0, 1) := by decide +kernel
theorem dX5_write_12 : decode cX5_write 12 = .ok (.getfield 16, 3) := by decide +kernel
theorem dX5_write_15 : decode cX5_write 15 = .ok (.invokestatic 98, 3) := by decide +kernel
theorem dX5_write_18 : decode cX5_write 18 = .ok (.ifCond .ne 6, 3) := by decide +kernel
theorem dX5_write_21 : decode cX5_write 21 = .ok (.bipush (-2), 2) := by decide +kernel
theorem dX5_write_23 : decode cX5_write 23 = .ok (.ireturn, 1) := by decide +kernel
theorem dX5_write_24 : decode cX5_write 24 = .ok (.aload_n 0, 1) := by decide +kernel
theorem dX5_write_25 : decode cX5_write 25 = .ok (.bipush 24, 2) := by decide +kernel
theorem dX5_write_27 : decode cX5_write 27 = .ok (.iload_n 1, 1) := by decide +kernel
theorem dX5_write_28 : decode cX5_write 28 = .ok (.imul, 1) := by decide +kernel
theorem dX5_write_29 : decode cX5_write 29 = .ok (.iload_n 2, 1) := by decide +kernel
theorem dX5_write_30 : decode cX5_write 30 = .ok (.iadd, 1) := by decide +kernel
theorem dX5_write_31 : decode cX5_write 31 = .ok (.iload_n 3, 1) := by decide +kernel
theorem dX5_write_32 : decode cX5_write 32 = .ok (.invokevirtual 106, 3) := by decide +kernel
theorem dX5_write_35 : decode cX5_write 35 = .ok (.ifCond .eq 7, 3) := by decide +kernel
theorem dX5_write_38 : decode cX5_write 38 = .ok (.iconst 1, 1) := by decide +kernel
theorem dX5_write_39 : decode cX5_write 39 = .ok (.goto 5, 3) := by decide +kernel
theorem dX5_write_42 : decode cX5_write 42 = .ok (.bipush (-3), 2) := by decide +kernel
theorem dX5_write_44 : decode cX5_write 44 = .ok (.ireturn, 1) := by decide +kernel
theorem dX5_stick_0 : decode cX5_stick 0 = .ok (.aload_n 0, 1) := by decide +kernel
theorem dX5_stick_1 : decode cX5_stick 1 = .ok (.iload_n 1, 1) := by decide +kernel
theorem dX5_stick_2 : decode cX5_stick 2 = .ok (.iload_n 2, 1) := by decide +kernel
theorem dX5_stick_3 : decode cX5_stick 3 = .ok (.invokevirtual 102, 3) := by decide +kernel
theorem dX5_stick_6 : decode cX5_stick 6 = .ok (.ifCond .eq 15, 3) := by decide +kernel
theorem dX5_stick_9 : decode cX5_stick 9 = .ok (.iload_n 3, 1) := by decide +kernel
theorem dX5_stick_10 : decode cX5_stick 10 = .ok (.iconst (-1), 1) := by decide +kernel
theorem dX5_stick_11 : decode cX5_stick 11 = .ok (.aload_n 0, 1) := by decide +kernel
theorem dX5_stick_12 : decode cX5_stick 12 = .ok (.getfield 16, 3) := by decide +kernel
theorem dX5_stick_15 : decode cX5_stick 15 = .ok (.invokestatic 98, 3) := by decide +kernel
theorem dX5_stick_18 : decode cX5_stick 18 = .ok (.ifCond .ne 6, 3) := by decide +kernel
theorem dX5_stick_21 : decode cX5_stick 21 = .ok (.bipush (-2), 2) := by decide +kernel
theorem dX5_stick_23 : decode cX5_stick 23 = .ok (.ireturn, 1) := by decide +kernel
theorem dX5_stick_24 : decode cX5_stick 24 = .ok (.bipush 24, 2) := by decide +kernel
theorem dX5_stick_26 : decode cX5_stick 26 = .ok (.iload_n 1, 1) := by decide +kernel
theorem dX5_stick_27 : decode cX5_stick 27 = .ok (.imul, 1) := by decide +kernel
theorem dX5_stick_28 : decode cX5_stick 28 = .ok (.iload_n 2, 1) := by decide +kernel
theorem dX5_stick_29 : decode cX5_stick 29 = .ok (.iadd, 1) := by decide +kernel
theorem dX5_stick_30 : decode cX5_stick 30 = .ok (.istore 4, 2) := by decide +kernel
theorem dX5_stick_32 : decode cX5_stick 32 = .ok (.aload_n 0, 1) := by decide +kernel
theorem dX5_stick_33 : decode cX5_stick 33 = .ok (.getfield 23, 3) := by decide +kernel
theorem dX5_stick_36 : decode cX5_stick 36 = .ok (.iload 4, 2) := by decide +kernel
theorem dX5_stick_38 : decode cX5_stick 38 = .ok (.iload_n 3, 1) := by decide +kernel
theorem dX5_stick_39 : decode cX5_stick 39 = .ok (.iastore, 1) := by decide +kernel
theorem dX5_stick_40 : decode cX5_stick 40 = .ok (.aload_n 0, 1) := by decide +kernel
theorem dX5_stick_41 : decode cX5_stick 41 = .ok (.getfield 19, 3) := by decide +kernel
theorem dX5_stick_44 : decode cX5_stick 44 = .ok (.iload 4, 2) := by decide +kernel
theorem dX5_stick_46 : decode cX5_stick 46 = .ok (.iload_n 3, 1) := by decide +kernel
theorem dX5_stick_47 : decode cX5_stick 47 = .ok (.iconst (-1), 1) := by decide +kernel
theorem dX5_stick_48 : decode cX5_stick 48 = .ok (.if_icmp .ne 13, 3) := by decide +kernel
theorem dX5_stick_51 : decode cX5_stick 51 = .ok (.aload_n 0, 1) := by decide +kernel
theorem dX5_stick_52 : decode cX5_stick 52 = .ok (.getfield 19, 3) := by decide +kernel
theorem dX5_stick_55 : decode cX5_stick 55 = .ok (.iload 4, 2) := by decide +kernel
theorem dX5_stick_57 : decode cX5_stick 57 = .ok (.iaload, 1) := by decide +kernel
theorem dX5_stick_58 : decode cX5_stick 58 = .ok (.goto 4, 3) := by decide +kernel
theorem dX5_stick_61 : decode cX5_stick 61 = .ok (.iload_n 3, 1) := by decide +kernel
theorem dX5_stick_62 : decode cX5_stick 62 = .ok (.iastore, 1) := by decide +kernel
theorem dX5_stick_63 : decode cX5_stick 63 = .ok (.iconst 1, 1) := by decide +kernel
theorem dX5_stick_64 : decode cX5_stick 64 = .ok (.ireturn, 1) := by decide +kernel
theorem dX5_cellAt_0 : decode cX5_cellAt 0 = .ok (.iload_n 2, 1) := by decide +kernel
theorem dX5_cellAt_1 : decode cX5_cellAt 1 = .ok (.ifCond .ne 12, 3) := by decide +kernel
theorem dX5_cellAt_4 : decode cX5_cellAt 4 = .ok (.aload_n 0, 1) := by decide +kernel
theorem dX5_cellAt_5 : decode cX5_cellAt 5 = .ok (.getfield 19, 3) := by decide +kernel
theorem dX5_cellAt_8 : decode cX5_cellAt 8 = .ok (.iload_n 1, 1) := by decide +kernel
theorem dX5_cellAt_9 : decode cX5_cellAt 9 = .ok (.iaload, 1) := by decide +kernel
theorem dX5_cellAt_10 : decode cX5_cellAt 10 = .ok (.goto 23, 3) := by decide +kernel
theorem dX5_cellAt_13 : decode cX5_cellAt 13 = .ok (.iload_n 2, 1) := by decide +kernel
theorem dX5_cellAt_14 : decode cX5_cellAt 14 = .ok (.iconst 1, 1) := by decide +kernel
theorem dX5_cellAt_15 : decode cX5_cellAt 15 = .ok (.if_icmp .ne 12, 3) := by decide +kernel
theorem dX5_cellAt_18 : decode cX5_cellAt 18 = .ok (.aload_n 0, 1) := by decide +kernel
theorem dX5_cellAt_19 : decode cX5_cellAt 19 = .ok (.getfield 23, 3) := by decide +kernel
theorem dX5_cellAt_22 : decode cX5_cellAt 22 = .ok (.iload_n 1, 1) := by decide +kernel
theorem dX5_cellAt_23 : decode cX5_cellAt 23 = .ok (.iaload, 1) := by decide +kernel
theorem dX5_cellAt_24 : decode cX5_cellAt 24 = .ok (.goto 9, 3) := by decide +kernel
theorem dX5_cellAt_27 : decode cX5_cellAt 27 = .ok (.aload_n 0, 1) := by decide +kernel
theorem dX5_cellAt_28 : decode cX5_cellAt 28 = .ok (.getfield 26, 3) := by decide +kernel
theorem dX5_cellAt_31 : decode cX5_cellAt 31 = .ok (.iload_n 1, 1) := by decide +kernel
theorem dX5_cellAt_32 : decode cX5_cellAt 32 = .ok (.iaload, 1) := by decide +kernel
theorem dX5_cellAt_33 : decode cX5_cellAt 33 = .ok (.ireturn, 1) := by decide +kernel
theorem dX5_cell_0 : decode cX5_cell 0 = .ok (.aload_n 0, 1) := by decide +kernel
theorem dX5_cell_1 : decode cX5_cell 1 = .ok (.iload_n 1, 1) := by decide +kernel
theorem dX5_cell_2 : decode cX5_cell 2 = .ok (.iload_n 2, 1) := by decide +kernel
theorem dX5_cell_3 : decode cX5_cell 3 = .ok (.invokevirtual 102, 3) := by decide +kernel
theorem dX5_cell_6 : decode cX5_cell 6 = .ok (.ifCond .eq 26, 3) := by decide +kernel
theorem dX5_cell_9 : decode cX5_cell 9 = .ok (.iload_n 3, 1) := by decide +kernel
theorem dX5_cell_10 : decode cX5_cell 10 = .ok (.iconst 0, 1) := by decide +kernel
theorem dX5_cell_11 : decode cX5_cell 11 = .ok (.iconst 2, 1) := by decide +kernel
theorem dX5_cell_12 : decode cX5_cell 12 = .ok (.invokestatic 98, 3) := by decide +kernel
theorem dX5_cell_15 : decode cX5_cell 15 = .ok (.ifCond .eq 17, 3) := by decide +kernel
theorem dX5_cell_18 : decode cX5_cell 18 = .ok (.aload_n 0, 1) := by decide +kernel
theorem dX5_cell_19 : decode cX5_cell 19 = .ok (.bipush 24, 2) := by decide +kernel
theorem dX5_cell_21 : decode cX5_cell 21 = .ok (.iload_n 1, 1) := by decide +kernel
theorem dX5_cell_22 : decode cX5_cell 22 = .ok (.imul, 1) := by decide +kernel
theorem dX5_cell_23 : decode cX5_cell 23 = .ok (.iload_n 2, 1) := by decide +kernel
theorem dX5_cell_24 : decode cX5_cell 24 = .ok (.iadd, 1) := by decide +kernel
theorem dX5_cell_25 : decode cX5_cell 25 = .ok (.iload_n 3, 1) := by decide +kernel
theorem dX5_cell_26 : decode cX5_cell 26 = .ok (.invokevirtual 109, 3) := by decide +kernel
theorem dX5_cell_29 : decode cX5_cell 29 = .ok (.goto 5, 3) := by decide +kernel
theorem dX5_cell_32 : decode cX5_cell 32 = .ok (.bipush (-2), 2) := by decide +kernel
theorem dX5_cell_34 : decode cX5_cell 34 = .ok (.ireturn, 1) := by decide +kernel
theorem dX5_input_0 : decode cX5_input 0 = .ok (.iload_n 1, 1) := by decide +kernel
theorem dX5_input_1 : decode cX5_input 1 = .ok (.iconst 0, 1) := by decide +kernel
theorem dX5_input_2 : decode cX5_input 2 = .ok (.aload_n 0, 1) := by decide +kernel
theorem dX5_input_3 : decode cX5_input 3 = .ok (.getfield 7, 3) := by decide +kernel
theorem dX5_input_6 : decode cX5_input 6 = .ok (.iconst 1, 1) := by decide +kernel
theorem dX5_input_7 : decode cX5_input 7 = .ok (.isub, 1) := by decide +kernel
theorem dX5_input_8 : decode cX5_input 8 = .ok (.invokestatic 98, 3) := by decide +kernel
theorem dX5_input_11 : decode cX5_input 11 = .ok (.ifCond .eq 14, 3) := by decide +kernel
theorem dX5_input_14 : decode cX5_input 14 = .ok (.iload_n 2, 1) := by decide +kernel
theorem dX5_input_15 : decode cX5_input 15 = .ok (.iconst 0, 1) := by decide +kernel
theorem dX5_input_16 : decode cX5_input 16 = .ok (.sipush 255, 3) := by decide +kernel
theorem dX5_input_19 : decode cX5_input 19 = .ok (.invokestatic 98, 3) := by decide +kernel
theorem dX5_input_22 : decode cX5_input 22 = .ok (.ifCond .ne 6, 3) := by decide +kernel
theorem dX5_input_25 : decode cX5_input 25 = .ok (.bipush (-2), 2) := by decide +kernel
theorem dX5_input_27 : decode cX5_input 27 = .ok (.ireturn, 1) := by decide +kernel
theorem dX5_input_28 : decode cX5_input 28 = .ok (.aload_n 0, 1) := by decide +kernel
theorem dX5_input_29 : decode cX5_input 29 = .ok (.getfield 29, 3) := by decide +kernel
theorem dX5_input_32 : decode cX5_input 32 = .ok (.iload_n 1, 1) := by decide +kernel
theorem dX5_input_33 : decode cX5_input 33 = .ok (.iaload, 1) := by decide +kernel
theorem dX5_input_34 : decode cX5_input 34 = .ok (.istore_n 3, 1) := by decide +kernel
theorem dX5_input_35 : decode cX5_input 35 = .ok (.aload_n 0, 1) := by decide +kernel
theorem dX5_input_36 : decode cX5_input 36 = .ok (.getfield 29, 3) := by decide +kernel
theorem dX5_input_39 : decode cX5_input 39 = .ok (.iload_n 1, 1) := by decide +kernel
theorem dX5_input_40 : decode cX5_input 40 = .ok (.iload_n 2, 1) := by decide +kernel
theorem dX5_input_41 : decode cX5_input 41 = .ok (.iastore, 1) := by decide +kernel
theorem dX5_input_42 : decode cX5_input 42 = .ok (.iload_n 3, 1) := by decide +kernel
theorem dX5_input_43 : decode cX5_input 43 = .ok (.ireturn, 1) := by decide +kernel
theorem dX5_bits_0 : decode cX5_bits 0 = .ok (.iload_n 1, 1) := by decide +kernel
theorem dX5_bits_1 : decode cX5_bits 1 = .ok (.iconst 1, 1) := by decide +kernel
theorem dX5_bits_2 : decode cX5_bits 2 = .ok (.bipush 16, 2) := by decide +kernel
theorem dX5_bits_4 : decode cX5_bits 4 = .ok (.invokestatic 98, 3) := by decide +kernel
theorem dX5_bits_7 : decode cX5_bits 7 = .ok (.ifCond .ne 6, 3) := by decide +kernel
theorem dX5_bits_10 : decode cX5_bits 10 = .ok (.bipush (-2), 2) := by decide +kernel
theorem dX5_bits_12 : decode cX5_bits 12 = .ok (.ireturn, 1) := by decide +kernel
theorem dX5_bits_13 : decode cX5_bits 13 = .ok (.aload_n 0, 1) := by decide +kernel
theorem dX5_bits_14 : decode cX5_bits 14 = .ok (.getfield 32, 3) := by decide +kernel
theorem dX5_bits_17 : decode cX5_bits 17 = .ok (.istore_n 2, 1) := by decide +kernel
theorem dX5_bits_18 : decode cX5_bits 18 = .ok (.aload_n 0, 1) := by decide +kernel
theorem dX5_bits_19 : decode cX5_bits 19 = .ok (.iload_n 1, 1) := by decide +kernel
theorem dX5_bits_20 : decode cX5_bits 20 = .ok (.putfield 32, 3) := by decide +kernel
theorem dX5_bits_23 : decode cX5_bits 23 = .ok (.iload_n 2, 1) := by decide +kernel
theorem dX5_bits_24 : decode cX5_bits 24 = .ok (.ireturn, 1) := by decide +kernel
theorem dX5_converted_0 : decode cX5_converted 0 = .ok (.iconst 1, 1) := by decide +kernel
theorem dX5_converted_1 : decode cX5_converted 1 = .ok (.aload_n 0, 1) := by decide +kernel
theorem dX5_converted_2 : decode cX5_converted 2 = .ok (.getfield 32, 3) := by decide +kernel
theorem dX5_converted_5 : decode cX5_converted 5 = .ok (.ishl, 1) := by decide +kernel
theorem dX5_converted_6 : decode cX5_converted 6 = .ok (.iconst 1, 1) := by decide +kernel
theorem dX5_converted_7 : decode cX5_converted 7 = .ok (.isub, 1) := by decide +kernel
theorem dX5_converted_8 : decode cX5_converted 8 = .ok (.istore_n 2, 1) := by decide +kernel
theorem dX5_converted_9 : decode cX5_converted 9 = .ok (.iload_n 1, 1) := by decide +kernel
theorem dX5_converted_10 : decode cX5_converted 10 = .ok (.iload_n 2, 1) := by decide +kernel
theorem dX5_converted_11 : decode cX5_converted 11 = .ok (.if_icmp .le 7, 3) := by decide +kernel
theorem dX5_converted_14 : decode cX5_converted 14 = .ok (.iload_n 2, 1) := by decide +kernel
theorem dX5_converted_15 : decode cX5_converted 15 = .ok (.goto 4, 3) := by decide +kernel
theorem dX5_converted_18 : decode cX5_converted 18 = .ok (.iload_n 1, 1) := by decide +kernel
theorem dX5_converted_19 : decode cX5_converted 19 = .ok (.ireturn, 1) := by decide +kernel
theorem dX5_sumOf_0 : decode cX5_sumOf 0 = .ok (.iconst 0, 1) := by decide +kernel
theorem dX5_sumOf_1 : decode cX5_sumOf 1 = .ok (.istore_n 2, 1) := by decide +kernel
theorem dX5_sumOf_2 : decode cX5_sumOf 2 = .ok (.iconst 0, 1) := by decide +kernel
theorem dX5_sumOf_3 : decode cX5_sumOf 3 = .ok (.istore_n 3, 1) := by decide +kernel
theorem dX5_sumOf_4 : decode cX5_sumOf 4 = .ok (.iload_n 3, 1) := by decide +kernel
theorem dX5_sumOf_5 : decode cX5_sumOf 5 = .ok (.aload_n 0, 1) := by decide +kernel
theorem dX5_sumOf_6 : decode cX5_sumOf 6 = .ok (.getfield 7, 3) := by decide +kernel
theorem dX5_sumOf_9 : decode cX5_sumOf 9 = .ok (.if_icmp .ge 30, 3) := by decide +kernel
theorem dX5_sumOf_12 : decode cX5_sumOf 12 = .ok (.iload_n 2, 1) := by decide +kernel
theorem dX5_sumOf_13 : decode cX5_sumOf 13 = .ok (.aload_n 0, 1) := by decide +kernel
theorem dX5_sumOf_14 : decode cX5_sumOf 14 = .ok (.getfield 29, 3) := by decide +kernel
theorem dX5_sumOf_17 : decode cX5_sumOf 17 = .ok (.iload_n 3, 1) := by decide +kernel
theorem dX5_sumOf_18 : decode cX5_sumOf 18 = .ok (.iaload, 1) := by decide +kernel
theorem dX5_sumOf_19 : decode cX5_sumOf 19 = .ok (.aload_n 0, 1) := by decide +kernel
theorem dX5_sumOf_20 : decode cX5_sumOf 20 = .ok (.getfield 19, 3) := by decide +kernel
theorem dX5_sumOf_23 : decode cX5_sumOf 23 = .ok (.bipush 24, 2) := by decide +kernel
theorem dX5_sumOf_25 : decode cX5_sumOf 25 = .ok (.iload_n 3, 1) := by decide +kernel
theorem dX5_sumOf_26 : decode cX5_sumOf 26 = .ok (.imul, 1) := by decide +kernel
theorem dX5_sumOf_27 : decode cX5_sumOf 27 = .ok (.iload_n 1, 1) := by decide +kernel
theorem dX5_sumOf_28 : decode cX5_sumOf 28 = .ok (.iadd, 1) := by decide +kernel
theorem dX5_sumOf_29 : decode cX5_sumOf 29 = .ok (.iaload, 1) := by decide +kernel
theorem dX5_sumOf_30 : decode cX5_sumOf 30 = .ok (.imul, 1) := by decide +kernel
theorem dX5_sumOf_31 : decode cX5_sumOf 31 = .ok (.iadd, 1) := by decide +kernel
theorem dX5_sumOf_32 : decode cX5_sumOf 32 = .ok (.istore_n 2, 1) := by decide +kernel
theorem dX5_sumOf_33 : decode cX5_sumOf 33 = .ok (.iinc 3 1, 3) := by decide +kernel
theorem dX5_sumOf_36 : decode cX5_sumOf 36 = .ok (.goto (-32), 3) := by decide +kernel
theorem dX5_sumOf_39 : decode cX5_sumOf 39 = .ok (.iload_n 2, 1) := by decide +kernel
theorem dX5_sumOf_40 : decode cX5_sumOf 40 = .ok (.ireturn, 1) := by decide +kernel
theorem dX5_sum_0 : decode cX5_sum 0 = .ok (.iload_n 1, 1) := by decide +kernel
theorem dX5_sum_1 : decode cX5_sum 1 = .ok (.iconst 0, 1) := by decide +kernel
theorem dX5_sum_2 : decode cX5_sum 2 = .ok (.aload_n 0, 1) := by decide +kernel
theorem dX5_sum_3 : decode cX5_sum 3 = .ok (.getfield 13, 3) := by decide +kernel
theorem dX5_sum_6 : decode cX5_sum 6 = .ok (.iconst 1, 1) := by decide +kernel
theorem dX5_sum_7 : decode cX5_sum 7 = .ok (.isub, 1) := by decide +kernel
theorem dX5_sum_8 : decode cX5_sum 8 = .ok (.invokestatic 98, 3) := by decide +kernel
theorem dX5_sum_11 : decode cX5_sum 11 = .ok (.ifCond .eq 15, 3) := by decide +kernel
theorem dX5_sum_14 : decode cX5_sum 14 = .ok (.aload_n 0, 1) := by decide +kernel
theorem dX5_sum_15 : decode cX5_sum 15 = .ok (.aload_n 0, 1) := by decide +kernel
theorem dX5_sum_16 : decode cX5_sum 16 = .ok (.iload_n 1, 1) := by decide +kernel
theorem dX5_sum_17 : decode cX5_sum 17 = .ok (.invokevirtual 113, 3) := by decide +kernel
theorem dX5_sum_20 : decode cX5_sum 20 = .ok (.invokevirtual 117, 3) := by decide +kernel
theorem dX5_sum_23 : decode cX5_sum 23 = .ok (.goto 5, 3) := by decide +kernel
theorem dX5_sum_26 : decode cX5_sum 26 = .ok (.bipush (-2), 2) := by decide +kernel
theorem dX5_sum_28 : decode cX5_sum 28 = .ok (.ireturn, 1) := by decide +kernel
theorem dX5_hasTable_0 : decode cX5_hasTable 0 = .ok (.aload_n 0, 1) := by decide +kernel
theorem dX5_hasTable_1 : decode cX5_hasTable 1 = .ok (.getfield 82, 3) := by decide +kernel
theorem dX5_hasTable_4 : decode cX5_hasTable 4 = .ok (.ifCond .le 7, 3) := by decide +kernel
theorem dX5_hasTable_7 : decode cX5_hasTable 7 = .ok (.iconst 1, 1) := by decide +kernel
theorem dX5_hasTable_8 : decode cX5_hasTable 8 = .ok (.goto 4, 3) := by decide +kernel
theorem dX5_hasTable_11 : decode cX5_hasTable 11 = .ok (.iconst 0, 1) := by decide +kernel
theorem dX5_hasTable_12 : decode cX5_hasTable 12 = .ok (.ireturn, 1) := by decide +kernel
theorem dX5_table_0 : decode cX5_table 0 = .ok (.iload_n 1, 1) := by decide +kernel
theorem dX5_table_1 : decode cX5_table 1 = .ok (.iconst 1, 1) := by decide +kernel
theorem dX5_table_2 : decode cX5_table 2 = .ok (.aload_n 0, 1) := by decide +kernel
theorem dX5_table_3 : decode cX5_table 3 = .ok (.getfield 7, 3) := by decide +kernel
theorem dX5_table_6 : decode cX5_table 6 = .ok (.invokestatic 98, 3) := by decide +kernel
theorem dX5_table_9 : decode cX5_table 9 = .ok (.ifCond .eq 23, 3) := by decide +kernel
theorem dX5_table_12 : decode cX5_table 12 = .ok (.iload_n 2, 1) := by decide +kernel
theorem dX5_table_13 : decode cX5_table 13 = .ok (.iconst 1, 1) := by decide +kernel
theorem dX5_table_14 : decode cX5_table 14 = .ok (.bipush 12, 2) := by decide +kernel
theorem dX5_table_16 : decode cX5_table 16 = .ok (.invokestatic 98, 3) := by decide +kernel
theorem dX5_table_19 : decode cX5_table 19 = .ok (.ifCond .eq 13, 3) := by decide +kernel
theorem dX5_table_22 : decode cX5_table 22 = .ok (.iload_n 3, 1) := by decide +kernel
theorem dX5_table_23 : decode cX5_table 23 = .ok (.iconst 1, 1) := by decide +kernel
theorem dX5_table_24 : decode cX5_table 24 = .ok (.bipush 6, 2) := by decide +kernel
theorem dX5_table_26 : decode cX5_table 26 = .ok (.invokestatic 98, 3) := by decide +kernel
theorem dX5_table_29 : decode cX5_table 29 = .ok (.ifCond .ne 6, 3) := by decide +kernel
theorem dX5_table_32 : decode cX5_table 32 = .ok (.bipush (-2), 2) := by decide +kernel
theorem dX5_table_34 : decode cX5_table 34 = .ok (.ireturn, 1) := by decide +kernel
theorem dX5_table_35 : decode cX5_table 35 = .ok (.iconst 2, 1) := by decide +kernel
theorem dX5_table_36 : decode cX5_table 36 = .ok (.iload_n 3, 1) := by decide +kernel
theorem dX5_table_37 : decode cX5_table 37 = .ok (.imul, 1) := by decide +kernel
theorem dX5_table_38 : decode cX5_table 38 = .ok (.iload_n 2, 1) := by decide +kernel
theorem dX5_table_39 : decode cX5_table 39 = .ok (.imul, 1) := by decide +kernel
theorem dX5_table_40 : decode cX5_table 40 = .ok (.aload_n 0, 1) := by decide +kernel
theorem dX5_table_41 : decode cX5_table 41 = .ok (.getfield 13, 3) := by decide +kernel
theorem dX5_table_44 : decode cX5_table 44 = .ok (.if_icmp .le 6, 3) := by decide +kernel
theorem dX5_table_47 : decode cX5_table 47 = .ok (.bipush (-3), 2) := by decide +kernel
theorem dX5_table_49 : decode cX5_table 49 = .ok (.ireturn, 1) := by decide +kernel
theorem dX5_table_50 : decode cX5_table 50 = .ok (.aload_n 0, 1) := by decide +kernel
theorem dX5_table_51 : decode cX5_table 51 = .ok (.iload_n 1, 1) := by decide +kernel
theorem dX5_table_52 : decode cX5_table 52 = .ok (.putfield 82, 3) := by decide +kernel
theorem dX5_table_55 : decode cX5_table 55 = .ok (.aload_n 0, 1) := by decide +kernel
theorem dX5_table_56 : decode cX5_table 56 = .ok (.iload_n 2, 1) := by decide +kernel
theorem dX5_table_57 : decode cX5_table 57 = .ok (.putfield 85, 3) := by decide +kernel
theorem dX5_table_60 : decode cX5_table 60 = .ok (.aload_n 0, 1) := by decide +kernel
theorem dX5_table_61 : decode cX5_table 61 = .ok (.iload_n 3, 1) := by decide +kernel
theorem dX5_table_62 : decode cX5_table 62 = .ok (.putfield 88, 3) := by decide +kernel
theorem dX5_table_65 : decode cX5_table 65 = .ok (.aload_n 0, 1) := by decide +kernel
theorem dX5_table_66 : decode cX5_table 66 = .ok (.iconst 0, 1) := by decide +kernel
theorem dX5_table_67 : decode cX5_table 67 = .ok (.putfield 91, 3) := by decide +kernel
theorem dX5_table_70 : decode cX5_table 70 = .ok (.iconst 0, 1) := by decide +kernel
theorem dX5_table_71 : decode cX5_table 71 = .ok (.istore 4, 2) := by decide +kernel
theorem dX5_table_73 : decode cX5_table 73 = .ok (.iload 4, 2) := by decide +kernel
theorem dX5_table_75 : decode cX5_table 75 = .ok (.bipush 96, 2) := by decide +kernel
theorem dX5_table_77 : decode cX5_table 77 = .ok (.if_icmp .ge 17, 3) := by decide +kernel
theorem dX5_table_80 : decode cX5_table 80 = .ok (.aload_n 0, 1) := by decide +kernel
theorem dX5_table_81 : decode cX5_table 81 = .ok (.getfield 35, 3) := by decide +kernel
theorem dX5_table_84 : decode cX5_table 84 = .ok (.iload 4, 2) := by decide +kernel
theorem dX5_table_86 : decode cX5_table 86 = .ok (.iconst 0, 1) := by decide +kernel
theorem dX5_table_87 : decode cX5_table 87 = .ok (.iastore, 1) := by decide +kernel
theorem dX5_table_88 : decode cX5_table 88 = .ok (.iinc 4 1, 3) := by decide +kernel
theorem dX5_table_91 : decode cX5_table 91 = .ok (.goto (-18), 3) := by decide +kernel
theorem dX5_table_94 : decode cX5_table 94 = .ok (.iconst 0, 1) := by decide +kernel
theorem dX5_table_95 : decode cX5_table 95 = .ok (.istore 4, 2) := by decide +kernel
theorem dX5_table_97 : decode cX5_table 97 = .ok (.iload 4, 2) := by decide +kernel
theorem dX5_table_99 : decode cX5_table 99 = .ok (.bipush 8, 2) := by decide +kernel
theorem dX5_table_101 : decode cX5_table 101 = .ok (.if_icmp .ge 18, 3) := by decide +kernel
theorem dX5_table_104 : decode cX5_table 104 = .ok (.aload_n 0, 1) := by decide +kernel
theorem dX5_table_105 : decode cX5_table 105 = .ok (.getfield 38, 3) := by decide +kernel
theorem dX5_table_108 : decode cX5_table 108 = .ok (.iload 4, 2) := by decide +kernel
theorem dX5_table_110 : decode cX5_table 110 = .ok (.iload 4, 2) := by decide +kernel
theorem dX5_table_112 : decode cX5_table 112 = .ok (.iastore, 1) := by decide +kernel
theorem dX5_table_113 : decode cX5_table 113 = .ok (.iinc 4 1, 3) := by decide +kernel
theorem dX5_table_116 : decode cX5_table 116 = .ok (.goto (-19), 3) := by decide +kernel
theorem dX5_table_119 : decode cX5_table 119 = .ok (.iconst 1, 1) := by decide +kernel
theorem dX5_table_120 : decode cX5_table 120 = .ok (.ireturn, 1) := by decide +kernel
theorem dX5_greatest_0 : decode cX5_greatest 0 = .ok (.iconst 1, 1) := by decide +kernel
theorem dX5_greatest_1 : decode cX5_greatest 1 = .ok (.istore_n 1, 1) := by decide +kernel
theorem dX5_greatest_2 : decode cX5_greatest 2 = .ok (.iconst 0, 1) := by decide +kernel
theorem dX5_greatest_3 : decode cX5_greatest 3 = .ok (.istore_n 2, 1) := by decide +kernel
theorem dX5_greatest_4 : decode cX5_greatest 4 = .ok (.iload_n 2, 1) := by decide +kernel
theorem dX5_greatest_5 : decode cX5_greatest 5 = .ok (.aload_n 0, 1) := by decide +kernel
theorem dX5_greatest_6 : decode cX5_greatest 6 = .ok (.getfield 88, 3) := by decide +kernel
theorem dX5_greatest_9 : decode cX5_greatest 9 = .ok (.if_icmp .ge 18, 3) := by decide +kernel
theorem dX5_greatest_12 : decode cX5_greatest 12 = .ok (.iload_n 1, 1) := by decide +kernel
theorem dX5_greatest_13 : decode cX5_greatest 13 = .ok (.aload_n 0, 1) := by decide +kernel
theorem dX5_greatest_14 : decode cX5_greatest 14 = .ok (.getfield 16, 3) := by decide +kernel
theorem dX5_greatest_17 : decode cX5_greatest 17 = .ok (.iconst 1, 1) := by decide +kernel
theorem dX5_greatest_18 : decode cX5_greatest 18 = .ok (.iadd, 1) := by decide +kernel
theorem dX5_greatest_19 : decode cX5_greatest 19 = .ok (.imul, 1) := by decide +kernel
theorem dX5_greatest_20 : decode cX5_greatest 20 = .ok (.istore_n 1, 1) := by decide +kernel
theorem dX5_greatest_21 : decode cX5_greatest 21 = .ok (.iinc 2 1, 3) := by decide +kernel
theorem dX5_greatest_24 : decode cX5_greatest 24 = .ok (.goto (-20), 3) := by decide +kernel
theorem dX5_greatest_27 : decode cX5_greatest 27 = .ok (.iload_n 1, 1) := by decide +kernel
theorem dX5_greatest_28 : decode cX5_greatest 28 = .ok (.iconst 1, 1) := by decide +kernel
theorem dX5_greatest_29 : decode cX5_greatest 29 = .ok (.isub, 1) := by decide +kernel
theorem dX5_greatest_30 : decode cX5_greatest 30 = .ok (.ireturn, 1) := by decide +kernel
theorem dX5_number_0 : decode cX5_number 0 = .ok (.iload_n 1, 1) := by decide +kernel
theorem dX5_number_1 : decode cX5_number 1 = .ok (.iconst 0, 1) := by decide +kernel
theorem dX5_number_2 : decode cX5_number 2 = .ok (.aload_n 0, 1) := by decide +kernel
theorem dX5_number_3 : decode cX5_number 3 = .ok (.getfield 82, 3) := by decide +kernel
theorem dX5_number_6 : decode cX5_number 6 = .ok (.iconst 1, 1) := by decide +kernel
theorem dX5_number_7 : decode cX5_number 7 = .ok (.isub, 1) := by decide +kernel
theorem dX5_number_8 : decode cX5_number 8 = .ok (.invokestatic 98, 3) := by decide +kernel
theorem dX5_number_11 : decode cX5_number 11 = .ok (.ifCond .eq 33, 3) := by decide +kernel
theorem dX5_number_14 : decode cX5_number 14 = .ok (.iload_n 2, 1) := by decide +kernel
theorem dX5_number_15 : decode cX5_number 15 = .ok (.iconst 0, 1) := by decide +kernel
theorem dX5_number_16 : decode cX5_number 16 = .ok (.aload_n 0, 1) := by decide +kernel
theorem dX5_number_17 : decode cX5_number 17 = .ok (.getfield 85, 3) := by decide +kernel
theorem dX5_number_20 : decode cX5_number 20 = .ok (.iconst 1, 1) := by decide +kernel
theorem dX5_number_21 : decode cX5_number 21 = .ok (.isub, 1) := by decide +kernel
theorem dX5_number_22 : decode cX5_number 22 = .ok (.invokestatic 98, 3) := by decide +kernel
theorem dX5_number_25 : decode cX5_number 25 = .ok (.ifCond .eq 19, 3) := by decide +kernel
theorem dX5_number_28 : decode cX5_number 28 = .ok (.iload_n 3, 1) := by decide +kernel
theorem dX5_number_29 : decode cX5_number 29 = .ok (.aload_n 0, 1) := by decide +kernel
theorem dX5_number_30 : decode cX5_number 30 = .ok (.invokevirtual 120, 3) := by decide +kernel
theorem dX5_number_33 : decode cX5_number 33 = .ok (.ineg, 1) := by decide +kernel
theorem dX5_number_34 : decode cX5_number 34 = .ok (.aload_n 0, 1) := by decide +kernel
theorem dX5_number_35 : decode cX5_number 35 = .ok (.invokevirtual 120, 3) := by decide +kernel
theorem dX5_number_38 : decode cX5_number 38 = .ok (.invokestatic 98, 3) := by decide +kernel
theorem dX5_number_41 : decode cX5_number 41 = .ok (.ifCond .ne 6, 3) := by decide +kernel
theorem dX5_number_44 : decode cX5_number 44 = .ok (.ldc 124, 2) := by decide +kernel
theorem dX5_number_46 : decode cX5_number 46 = .ok (.ireturn, 1) := by decide +kernel
theorem dX5_number_47 : decode cX5_number 47 = .ok (.aload_n 0, 1) := by decide +kernel
theorem dX5_number_48 : decode cX5_number 48 = .ok (.getfield 35, 3) := by decide +kernel
theorem dX5_number_51 : decode cX5_number 51 = .ok (.bipush 12, 2) := by decide +kernel
theorem dX5_number_53 : decode cX5_number 53 = .ok (.iload_n 1, 1) := by decide +kernel
theorem dX5_number_54 : decode cX5_number 54 = .ok (.imul, 1) := by decide +kernel
theorem dX5_number_55 : decode cX5_number 55 = .ok (.iload_n 2, 1) := by decide +kernel
theorem dX5_number_56 : decode cX5_number 56 = .ok (.iadd, 1) := by decide +kernel
theorem dX5_number_57 : decode cX5_number 57 = .ok (.iaload, 1) := by decide +kernel
theorem dX5_number_58 : decode cX5_number 58 = .ok (.istore 4, 2) := by decide +kernel
theorem dX5_number_60 : decode cX5_number 60 = .ok (.aload_n 0, 1) := by decide +kernel
theorem dX5_number_61 : decode cX5_number 61 = .ok (.getfield 35, 3) := by decide +kernel
theorem dX5_number_64 : decode cX5_number 64 = .ok (.bipush 12, 2) := by decide +kernel
theorem dX5_number_66 : decode cX5_number 66 = .ok (.iload_n 1, 1) := by decide +kernel
theorem dX5_number_67 : decode cX5_number 67 = .ok (.imul, 1) := by decide +kernel
theorem dX5_number_68 : decode cX5_number 68 = .ok (.iload_n 2, 1) := by decide +kernel
theorem dX5_number_69 : decode cX5_number 69 = .ok (.iadd, 1) := by decide +kernel
theorem dX5_number_70 : decode cX5_number 70 = .ok (.iload_n 3, 1) := by decide +kernel
theorem dX5_number_71 : decode cX5_number 71 = .ok (.iastore, 1) := by decide +kernel
theorem dX5_number_72 : decode cX5_number 72 = .ok (.iload 4, 2) := by decide +kernel
theorem dX5_number_74 : decode cX5_number 74 = .ok (.ireturn, 1) := by decide +kernel
theorem dX5_wanted_0 : decode cX5_wanted 0 = .ok (.aload_n 0, 1) := by decide +kernel
theorem dX5_wanted_1 : decode cX5_wanted 1 = .ok (.getfield 35, 3) := by decide +kernel
theorem dX5_wanted_4 : decode cX5_wanted 4 = .ok (.bipush 12, 2) := by decide +kernel
theorem dX5_wanted_6 : decode cX5_wanted 6 = .ok (.iload_n 1, 1) := by decide +kernel
theorem dX5_wanted_7 : decode cX5_wanted 7 = .ok (.imul, 1) := by decide +kernel
theorem dX5_wanted_8 : decode cX5_wanted 8 = .ok (.iload_n 2, 1) := by decide +kernel
theorem dX5_wanted_9 : decode cX5_wanted 9 = .ok (.iconst 2, 1) := by decide +kernel
theorem dX5_wanted_10 : decode cX5_wanted 10 = .ok (.aload_n 0, 1) := by decide +kernel
theorem dX5_wanted_11 : decode cX5_wanted 11 = .ok (.getfield 88, 3) := by decide +kernel
theorem dX5_wanted_14 : decode cX5_wanted 14 = .ok (.imul, 1) := by decide +kernel
theorem dX5_wanted_15 : decode cX5_wanted 15 = .ok (.idiv, 1) := by decide +kernel
theorem dX5_wanted_16 : decode cX5_wanted 16 = .ok (.iadd, 1) := by decide +kernel
theorem dX5_wanted_17 : decode cX5_wanted 17 = .ok (.iaload, 1) := by decide +kernel
theorem dX5_wanted_18 : decode cX5_wanted 18 = .ok (.istore_n 3, 1) := by decide +kernel
theorem dX5_wanted_19 : decode cX5_wanted 19 = .ok (.iload_n 2, 1) := by decide +kernel
theorem dX5_wanted_20 : decode cX5_wanted 20 = .ok (.iconst 2, 1) := by decide +kernel
theorem dX5_wanted_21 : decode cX5_wanted 21 = .ok (.aload_n 0, 1) := by decide +kernel
theorem dX5_wanted_22 : decode cX5_wanted 22 = .ok (.getfield 88, 3) := by decide +kernel
theorem dX5_wanted_25 : decode cX5_wanted 25 = .ok (.imul, 1) := by decide +kernel
theorem dX5_wanted_26 : decode cX5_wanted 26 = .ok (.irem, 1) := by decide +kernel
theorem dX5_wanted_27 : decode cX5_wanted 27 = .ok (.istore 4, 2) := by decide +kernel
theorem dX5_wanted_29 : decode cX5_wanted 29 = .ok (.iload 4, 2) := by decide +kernel
theorem dX5_wanted_31 : decode cX5_wanted 31 = .ok (.aload_n 0, 1) := by decide +kernel
theorem dX5_wanted_32 : decode cX5_wanted 32 = .ok (.getfield 88, 3) := by decide +kernel
theorem dX5_wanted_35 : decode cX5_wanted 35 = .ok (.if_icmp .lt 7, 3) := by decide +kernel
theorem dX5_wanted_38 : decode cX5_wanted 38 = .ok (.iconst 1, 1) := by decide +kernel
theorem dX5_wanted_39 : decode cX5_wanted 39 = .ok (.goto 4, 3) := by decide +kernel
theorem dX5_wanted_42 : decode cX5_wanted 42 = .ok (.iconst 0, 1) := by decide +kernel
theorem dX5_wanted_43 : decode cX5_wanted 43 = .ok (.istore 5, 2) := by decide +kernel
theorem dX5_wanted_45 : decode cX5_wanted 45 = .ok (.iload_n 3, 1) := by decide +kernel
theorem dX5_wanted_46 : decode cX5_wanted 46 = .ok (.ifCond .ge 7, 3) := by decide +kernel
theorem dX5_wanted_49 : decode cX5_wanted 49 = .ok (.iconst 1, 1) := by decide +kernel
theorem dX5_wanted_50 : decode cX5_wanted 50 = .ok (.goto 4, 3) := by decide +kernel
theorem dX5_wanted_53 : decode cX5_wanted 53 = .ok (.iconst 0, 1) := by decide +kernel
theorem dX5_wanted_54 : decode cX5_wanted 54 = .ok (.iload 5, 2) := by decide +kernel
theorem dX5_wanted_56 : decode cX5_wanted 56 = .ok (.if_icmp .eq 5, 3) := by decide +kernel
theorem dX5_wanted_59 : decode cX5_wanted 59 = .ok (.iconst 0, 1) := by decide +kernel
theorem dX5_wanted_60 : decode cX5_wanted 60 = .ok (.ireturn, 1) := by decide +kernel
theorem dX5_wanted_61 : decode cX5_wanted 61 = .ok (.iload_n 3, 1) := by decide +kernel
theorem dX5_wanted_62 : decode cX5_wanted 62 = .ok (.ifCond .ge 8, 3) := by decide +kernel
theorem dX5_wanted_65 : decode cX5_wanted 65 = .ok (.iload_n 3, 1) := by decide +kernel
theorem dX5_wanted_66 : decode cX5_wanted 66 = .ok (.ineg, 1) := by decide +kernel
theorem dX5_wanted_67 : decode cX5_wanted 67 = .ok (.goto 4, 3) := by decide +kernel
theorem dX5_wanted_70 : decode cX5_wanted 70 = .ok (.iload_n 3, 1) := by decide +kernel
theorem dX5_wanted_71 : decode cX5_wanted 71 = .ok (.istore 6, 2) := by decide +kernel
theorem dX5_wanted_73 : decode cX5_wanted 73 = .ok (.iload 4, 2) := by decide +kernel
theorem dX5_wanted_75 : decode cX5_wanted 75 = .ok (.aload_n 0, 1) := by decide +kernel
theorem dX5_wanted_76 : decode cX5_wanted 76 = .ok (.getfield 88, 3) := by decide +kernel
theorem dX5_wanted_79 : decode cX5_wanted 79 = .ok (.irem, 1) := by decide +kernel
theorem dX5_wanted_80 : decode cX5_wanted 80 = .ok (.istore 7, 2) := by decide +kernel
theorem dX5_wanted_82 : decode cX5_wanted 82 = .ok (.iload 7, 2) := by decide +kernel
theorem dX5_wanted_84 : decode cX5_wanted 84 = .ok (.ifCond .le 20, 3) := by decide +kernel
theorem dX5_wanted_87 : decode cX5_wanted 87 = .ok (.iload 6, 2) := by decide +kernel
theorem dX5_wanted_89 : decode cX5_wanted 89 = .ok (.aload_n 0, 1) := by decide +kernel
theorem dX5_wanted_90 : decode cX5_wanted 90 = .ok (.getfield 16, 3) := by decide +kernel
theorem dX5_wanted_93 : decode cX5_wanted 93 = .ok (.iconst 1, 1) := by decide +kernel
theorem dX5_wanted_94 : decode cX5_wanted 94 = .ok (.iadd, 1) := by decide +kernel
theorem dX5_wanted_95 : decode cX5_wanted 95 = .ok (.idiv, 1) := by decide +kernel
theorem dX5_wanted_96 : decode cX5_wanted 96 = .ok (.istore 6, 2) := by decide +kernel
theorem dX5_wanted_98 : decode cX5_wanted 98 = .ok (.iinc 7 (-1), 3) := by decide +kernel
theorem dX5_wanted_101 : decode cX5_wanted 101 = .ok (.goto (-19), 3) := by decide +kernel
theorem dX5_wanted_104 : decode cX5_wanted 104 = .ok (.iload 6, 2) := by decide +kernel
theorem dX5_wanted_106 : decode cX5_wanted 106 = .ok (.aload_n 0, 1) := by decide +kernel
theorem dX5_wanted_107 : decode cX5_wanted 107 = .ok (.getfield 16, 3) := by decide +kernel
theorem dX5_wanted_110 : decode cX5_wanted 110 = .ok (.iconst 1, 1) := by decide +kernel
theorem dX5_wanted_111 : decode cX5_wanted 111 = .ok (.iadd, 1) := by decide +kernel
