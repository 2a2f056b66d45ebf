theorem dX1_sticks_4 : decode cX1_sticks 4 = .ok (.iload_n 1, 1) := by decide +kernel
theorem dX1_sticks_5 : decode cX1_sticks 5 = .ok (.iaload, 1) := by decide +kernel
theorem dX1_sticks_6 : decode cX1_sticks 6 = .ok (.iconst (-1), 1) := by decide +kernel
theorem dX1_sticks_7 : decode cX1_sticks 7 = .ok (.if_icmp .eq 7, 3) := by decide +kernel
theorem dX1_sticks_10 : decode cX1_sticks 10 = .ok (.iconst 1, 1) := by decide +kernel
theorem dX1_sticks_11 : decode cX1_sticks 11 = .ok (.goto 4, 3) := by decide +kernel
theorem dX1_sticks_14 : decode cX1_sticks 14 = .ok (.iconst 0, 1) := by decide +kernel
theorem dX1_sticks_15 : decode cX1_sticks 15 = .ok (.ireturn, 1) := by decide +kernel
theorem dX1_sticksAtAnother_0 : decode cX1_sticksAtAnother 0 = .ok (.aload_n 0, 1) := by decide +kernel
theorem dX1_sticksAtAnother_1 : decode cX1_sticksAtAnother 1 = .ok (.iload_n 1, 1) := by decide +kernel
theorem dX1_sticksAtAnother_2 : decode cX1_sticksAtAnother 2 = .ok (.invokevirtual 51, 3) := by decide +kernel
theorem dX1_sticksAtAnother_5 : decode cX1_sticksAtAnother 5 = .ok (.ifCond .eq 17, 3) := by decide +kernel
theorem dX1_sticksAtAnother_8 : decode cX1_sticksAtAnother 8 = .ok (.aload_n 0, 1) := by decide +kernel
theorem dX1_sticksAtAnother_9 : decode cX1_sticksAtAnother 9 = .ok (.getfield 15, 3) := by decide +kernel
theorem dX1_sticksAtAnother_12 : decode cX1_sticksAtAnother 12 = .ok (.iload_n 1, 1) := by decide +kernel
theorem dX1_sticksAtAnother_13 : decode cX1_sticksAtAnother 13 = .ok (.iaload, 1) := by decide +kernel
theorem dX1_sticksAtAnother_14 : decode cX1_sticksAtAnother 14 = .ok (.iload_n 2, 1) := by decide +kernel
theorem dX1_sticksAtAnother_15 : decode cX1_sticksAtAnother 15 = .ok (.if_icmp .eq 7, 3) := by decide +kernel
theorem dX1_sticksAtAnother_18 : decode cX1_sticksAtAnother 18 = .ok (.iconst 1, 1) := by decide +kernel
theorem dX1_sticksAtAnother_19 : decode cX1_sticksAtAnother 19 = .ok (.goto 4, 3) := by decide +kernel
theorem dX1_sticksAtAnother_22 : decode cX1_sticksAtAnother 22 = .ok (.iconst 0, 1) := by decide +kernel
theorem dX1_sticksAtAnother_23 : decode cX1_sticksAtAnother 23 = .ok (.ireturn, 1) := by decide +kernel
theorem dX1_put_0 : decode cX1_put 0 = .ok (.aload_n 0, 1) := by decide +kernel
theorem dX1_put_1 : decode cX1_put 1 = .ok (.getfield 18, 3) := by decide +kernel
theorem dX1_put_4 : decode cX1_put 4 = .ok (.iload_n 1, 1) := by decide +kernel
theorem dX1_put_5 : decode cX1_put 5 = .ok (.iconst 0, 1) := by decide +kernel
theorem dX1_put_6 : decode cX1_put 6 = .ok (.iastore, 1) := by decide +kernel
theorem dX1_put_7 : decode cX1_put 7 = .ok (.aload_n 0, 1) := by decide +kernel
theorem dX1_put_8 : decode cX1_put 8 = .ok (.iload_n 1, 1) := by decide +kernel
theorem dX1_put_9 : decode cX1_put 9 = .ok (.invokevirtual 51, 3) := by decide +kernel
theorem dX1_put_12 : decode cX1_put 12 = .ok (.ifCond .ne 10, 3) := by decide +kernel
theorem dX1_put_15 : decode cX1_put 15 = .ok (.aload_n 0, 1) := by decide +kernel
theorem dX1_put_16 : decode cX1_put 16 = .ok (.getfield 9, 3) := by decide +kernel
theorem dX1_put_19 : decode cX1_put 19 = .ok (.iload_n 1, 1) := by decide +kernel
theorem dX1_put_20 : decode cX1_put 20 = .ok (.iload_n 2, 1) := by decide +kernel
theorem dX1_put_21 : decode cX1_put 21 = .ok (.iastore, 1) := by decide +kernel
theorem dX1_put_22 : decode cX1_put 22 = .ok (.return_, 1) := by decide +kernel
theorem dX1_hold_0 : decode cX1_hold 0 = .ok (.aload_n 0, 1) := by decide +kernel
theorem dX1_hold_1 : decode cX1_hold 1 = .ok (.getfield 15, 3) := by decide +kernel
theorem dX1_hold_4 : decode cX1_hold 4 = .ok (.iload_n 1, 1) := by decide +kernel
theorem dX1_hold_5 : decode cX1_hold 5 = .ok (.iload_n 2, 1) := by decide +kernel
theorem dX1_hold_6 : decode cX1_hold 6 = .ok (.iastore, 1) := by decide +kernel
theorem dX1_hold_7 : decode cX1_hold 7 = .ok (.iload_n 2, 1) := by decide +kernel
theorem dX1_hold_8 : decode cX1_hold 8 = .ok (.iconst (-1), 1) := by decide +kernel
theorem dX1_hold_9 : decode cX1_hold 9 = .ok (.if_icmp .eq 10, 3) := by decide +kernel
theorem dX1_hold_12 : decode cX1_hold 12 = .ok (.aload_n 0, 1) := by decide +kernel
theorem dX1_hold_13 : decode cX1_hold 13 = .ok (.getfield 9, 3) := by decide +kernel
theorem dX1_hold_16 : decode cX1_hold 16 = .ok (.iload_n 1, 1) := by decide +kernel
theorem dX1_hold_17 : decode cX1_hold 17 = .ok (.iload_n 2, 1) := by decide +kernel
theorem dX1_hold_18 : decode cX1_hold 18 = .ok (.iastore, 1) := by decide +kernel
theorem dX1_hold_19 : decode cX1_hold 19 = .ok (.return_, 1) := by decide +kernel
theorem dX1_tellCell_0 : decode cX1_tellCell 0 = .ok (.iload_n 2, 1) := by decide +kernel
theorem dX1_tellCell_1 : decode cX1_tellCell 1 = .ok (.ifCond .ne 10, 3) := by decide +kernel
theorem dX1_tellCell_4 : decode cX1_tellCell 4 = .ok (.aload_n 0, 1) := by decide +kernel
theorem dX1_tellCell_5 : decode cX1_tellCell 5 = .ok (.getfield 9, 3) := by decide +kernel
theorem dX1_tellCell_8 : decode cX1_tellCell 8 = .ok (.iload_n 1, 1) := by decide +kernel
theorem dX1_tellCell_9 : decode cX1_tellCell 9 = .ok (.iaload, 1) := by decide +kernel
theorem dX1_tellCell_10 : decode cX1_tellCell 10 = .ok (.ireturn, 1) := by decide +kernel
theorem dX1_tellCell_11 : decode cX1_tellCell 11 = .ok (.iload_n 2, 1) := by decide +kernel
theorem dX1_tellCell_12 : decode cX1_tellCell 12 = .ok (.iconst 1, 1) := by decide +kernel
theorem dX1_tellCell_13 : decode cX1_tellCell 13 = .ok (.if_icmp .ne 12, 3) := by decide +kernel
theorem dX1_tellCell_16 : decode cX1_tellCell 16 = .ok (.aload_n 0, 1) := by decide +kernel
theorem dX1_tellCell_17 : decode cX1_tellCell 17 = .ok (.getfield 15, 3) := by decide +kernel
theorem dX1_tellCell_20 : decode cX1_tellCell 20 = .ok (.iload_n 1, 1) := by decide +kernel
theorem dX1_tellCell_21 : decode cX1_tellCell 21 = .ok (.iaload, 1) := by decide +kernel
theorem dX1_tellCell_22 : decode cX1_tellCell 22 = .ok (.goto 9, 3) := by decide +kernel
theorem dX1_tellCell_25 : decode cX1_tellCell 25 = .ok (.aload_n 0, 1) := by decide +kernel
theorem dX1_tellCell_26 : decode cX1_tellCell 26 = .ok (.getfield 18, 3) := by decide +kernel
theorem dX1_tellCell_29 : decode cX1_tellCell 29 = .ok (.iload_n 1, 1) := by decide +kernel
theorem dX1_tellCell_30 : decode cX1_tellCell 30 = .ok (.iaload, 1) := by decide +kernel
theorem dX1_tellCell_31 : decode cX1_tellCell 31 = .ok (.ireturn, 1) := by decide +kernel
theorem dX1_columnSum_0 : decode cX1_columnSum 0 = .ok (.iconst 0, 1) := by decide +kernel
theorem dX1_columnSum_1 : decode cX1_columnSum 1 = .ok (.istore_n 2, 1) := by decide +kernel
theorem dX1_columnSum_2 : decode cX1_columnSum 2 = .ok (.iconst 0, 1) := by decide +kernel
theorem dX1_columnSum_3 : decode cX1_columnSum 3 = .ok (.istore_n 3, 1) := by decide +kernel
theorem dX1_columnSum_4 : decode cX1_columnSum 4 = .ok (.iload_n 3, 1) := by decide +kernel
theorem dX1_columnSum_5 : decode cX1_columnSum 5 = .ok (.aload_n 0, 1) := by decide +kernel
theorem dX1_columnSum_6 : decode cX1_columnSum 6 = .ok (.getfield 28, 3) := by decide +kernel
theorem dX1_columnSum_9 : decode cX1_columnSum 9 = .ok (.if_icmp .ge 30, 3) := by decide +kernel
theorem dX1_columnSum_12 : decode cX1_columnSum 12 = .ok (.iload_n 2, 1) := by decide +kernel
theorem dX1_columnSum_13 : decode cX1_columnSum 13 = .ok (.aload_n 0, 1) := by decide +kernel
theorem dX1_columnSum_14 : decode cX1_columnSum 14 = .ok (.getfield 21, 3) := by decide +kernel
theorem dX1_columnSum_17 : decode cX1_columnSum 17 = .ok (.iload_n 3, 1) := by decide +kernel
theorem dX1_columnSum_18 : decode cX1_columnSum 18 = .ok (.iaload, 1) := by decide +kernel
theorem dX1_columnSum_19 : decode cX1_columnSum 19 = .ok (.aload_n 0, 1) := by decide +kernel
theorem dX1_columnSum_20 : decode cX1_columnSum 20 = .ok (.getfield 9, 3) := by decide +kernel
theorem dX1_columnSum_23 : decode cX1_columnSum 23 = .ok (.aload_n 0, 1) := by decide +kernel
theorem dX1_columnSum_24 : decode cX1_columnSum 24 = .ok (.iload_n 3, 1) := by decide +kernel
theorem dX1_columnSum_25 : decode cX1_columnSum 25 = .ok (.iload_n 1, 1) := by decide +kernel
theorem dX1_columnSum_26 : decode cX1_columnSum 26 = .ok (.invokevirtual 55, 3) := by decide +kernel
theorem dX1_columnSum_29 : decode cX1_columnSum 29 = .ok (.iaload, 1) := by decide +kernel
theorem dX1_columnSum_30 : decode cX1_columnSum 30 = .ok (.imul, 1) := by decide +kernel
theorem dX1_columnSum_31 : decode cX1_columnSum 31 = .ok (.iadd, 1) := by decide +kernel
theorem dX1_columnSum_32 : decode cX1_columnSum 32 = .ok (.istore_n 2, 1) := by decide +kernel
theorem dX1_columnSum_33 : decode cX1_columnSum 33 = .ok (.iinc 3 1, 3) := by decide +kernel
theorem dX1_columnSum_36 : decode cX1_columnSum 36 = .ok (.goto (-32), 3) := by decide +kernel
theorem dX1_columnSum_39 : decode cX1_columnSum 39 = .ok (.iload_n 2, 1) := by decide +kernel
theorem dX1_columnSum_40 : decode cX1_columnSum 40 = .ok (.ireturn, 1) := by decide +kernel
theorem dX1_convert_0 : decode cX1_convert 0 = .ok (.iload_n 1, 1) := by decide +kernel
theorem dX1_convert_1 : decode cX1_convert 1 = .ok (.iconst 1, 1) := by decide +kernel
theorem dX1_convert_2 : decode cX1_convert 2 = .ok (.aload_n 0, 1) := by decide +kernel
theorem dX1_convert_3 : decode cX1_convert 3 = .ok (.getfield 38, 3) := by decide +kernel
theorem dX1_convert_6 : decode cX1_convert 6 = .ok (.ishl, 1) := by decide +kernel
theorem dX1_convert_7 : decode cX1_convert 7 = .ok (.iconst 1, 1) := by decide +kernel
theorem dX1_convert_8 : decode cX1_convert 8 = .ok (.isub, 1) := by decide +kernel
theorem dX1_convert_9 : decode cX1_convert 9 = .ok (.invokestatic 59, 3) := by decide +kernel
theorem dX1_convert_12 : decode cX1_convert 12 = .ok (.ireturn, 1) := by decide +kernel
theorem dX1_stickingCells_0 : decode cX1_stickingCells 0 = .ok (.iconst 0, 1) := by decide +kernel
theorem dX1_stickingCells_1 : decode cX1_stickingCells 1 = .ok (.istore_n 1, 1) := by decide +kernel
theorem dX1_stickingCells_2 : decode cX1_stickingCells 2 = .ok (.iconst 0, 1) := by decide +kernel
theorem dX1_stickingCells_3 : decode cX1_stickingCells 3 = .ok (.istore_n 2, 1) := by decide +kernel
theorem dX1_stickingCells_4 : decode cX1_stickingCells 4 = .ok (.iload_n 2, 1) := by decide +kernel
theorem dX1_stickingCells_5 : decode cX1_stickingCells 5 = .ok (.aload_n 0, 1) := by decide +kernel
theorem dX1_stickingCells_6 : decode cX1_stickingCells 6 = .ok (.getfield 28, 3) := by decide +kernel
theorem dX1_stickingCells_9 : decode cX1_stickingCells 9 = .ok (.if_icmp .ge 46, 3) := by decide +kernel
theorem dX1_stickingCells_12 : decode cX1_stickingCells 12 = .ok (.iconst 0, 1) := by decide +kernel
theorem dX1_stickingCells_13 : decode cX1_stickingCells 13 = .ok (.istore_n 3, 1) := by decide +kernel
theorem dX1_stickingCells_14 : decode cX1_stickingCells 14 = .ok (.iload_n 3, 1) := by decide +kernel
theorem dX1_stickingCells_15 : decode cX1_stickingCells 15 = .ok (.aload_n 0, 1) := by decide +kernel
theorem dX1_stickingCells_16 : decode cX1_stickingCells 16 = .ok (.getfield 32, 3) := by decide +kernel
theorem dX1_stickingCells_19 : decode cX1_stickingCells 19 = .ok (.if_icmp .ge 30, 3) := by decide +kernel
theorem dX1_stickingCells_22 : decode cX1_stickingCells 22 = .ok (.iload_n 1, 1) := by decide +kernel
theorem dX1_stickingCells_23 : decode cX1_stickingCells 23 = .ok (.aload_n 0, 1) := by decide +kernel
theorem dX1_stickingCells_24 : decode cX1_stickingCells 24 = .ok (.aload_n 0, 1) := by decide +kernel
theorem dX1_stickingCells_25 : decode cX1_stickingCells 25 = .ok (.iload_n 2, 1) := by decide +kernel
theorem dX1_stickingCells_26 : decode cX1_stickingCells 26 = .ok (.iload_n 3, 1) := by decide +kernel
theorem dX1_stickingCells_27 : decode cX1_stickingCells 27 = .ok (.invokevirtual 55, 3) := by decide +kernel
theorem dX1_stickingCells_30 : decode cX1_stickingCells 30 = .ok (.invokevirtual 51, 3) := by decide +kernel
theorem dX1_stickingCells_33 : decode cX1_stickingCells 33 = .ok (.ifCond .eq 7, 3) := by decide +kernel
theorem dX1_stickingCells_36 : decode cX1_stickingCells 36 = .ok (.iconst 1, 1) := by decide +kernel
theorem dX1_stickingCells_37 : decode cX1_stickingCells 37 = .ok (.goto 4, 3) := by decide +kernel
theorem dX1_stickingCells_40 : decode cX1_stickingCells 40 = .ok (.iconst 0, 1) := by decide +kernel
theorem dX1_stickingCells_41 : decode cX1_stickingCells 41 = .ok (.iadd, 1) := by decide +kernel
theorem dX1_stickingCells_42 : decode cX1_stickingCells 42 = .ok (.istore_n 1, 1) := by decide +kernel
theorem dX1_stickingCells_43 : decode cX1_stickingCells 43 = .ok (.iinc 3 1, 3) := by decide +kernel
theorem dX1_stickingCells_46 : decode cX1_stickingCells 46 = .ok (.goto (-32), 3) := by decide +kernel
theorem dX1_stickingCells_49 : decode cX1_stickingCells 49 = .ok (.iinc 2 1, 3) := by decide +kernel
theorem dX1_stickingCells_52 : decode cX1_stickingCells 52 = .ok (.goto (-48), 3) := by decide +kernel
theorem dX1_stickingCells_55 : decode cX1_stickingCells 55 = .ok (.iload_n 1, 1) := by decide +kernel
theorem dX1_stickingCells_56 : decode cX1_stickingCells 56 = .ok (.ireturn, 1) := by decide +kernel
theorem dX1_ageAll_0 : decode cX1_ageAll 0 = .ok (.iconst 0, 1) := by decide +kernel
theorem dX1_ageAll_1 : decode cX1_ageAll 1 = .ok (.istore_n 1, 1) := by decide +kernel
theorem dX1_ageAll_2 : decode cX1_ageAll 2 = .ok (.iconst 0, 1) := by decide +kernel
theorem dX1_ageAll_3 : decode cX1_ageAll 3 = .ok (.istore_n 2, 1) := by decide +kernel
theorem dX1_ageAll_4 : decode cX1_ageAll 4 = .ok (.iload_n 2, 1) := by decide +kernel
theorem dX1_ageAll_5 : decode cX1_ageAll 5 = .ok (.aload_n 0, 1) := by decide +kernel
theorem dX1_ageAll_6 : decode cX1_ageAll 6 = .ok (.getfield 28, 3) := by decide +kernel
theorem dX1_ageAll_9 : decode cX1_ageAll 9 = .ok (.if_icmp .ge 46, 3) := by decide +kernel
theorem dX1_ageAll_12 : decode cX1_ageAll 12 = .ok (.iconst 0, 1) := by decide +kernel
theorem dX1_ageAll_13 : decode cX1_ageAll 13 = .ok (.istore_n 3, 1) := by decide +kernel
theorem dX1_ageAll_14 : decode cX1_ageAll 14 = .ok (.iload_n 3, 1) := by decide +kernel
theorem dX1_ageAll_15 : decode cX1_ageAll 15 = .ok (.aload_n 0, 1) := by decide +kernel
theorem dX1_ageAll_16 : decode cX1_ageAll 16 = .ok (.getfield 32, 3) := by decide +kernel
theorem dX1_ageAll_19 : decode cX1_ageAll 19 = .ok (.if_icmp .ge 30, 3) := by decide +kernel
theorem dX1_ageAll_22 : decode cX1_ageAll 22 = .ok (.iload_n 1, 1) := by decide +kernel
theorem dX1_ageAll_23 : decode cX1_ageAll 23 = .ok (.aload_n 0, 1) := by decide +kernel
theorem dX1_ageAll_24 : decode cX1_ageAll 24 = .ok (.aload_n 0, 1) := by decide +kernel
theorem dX1_ageAll_25 : decode cX1_ageAll 25 = .ok (.iload_n 2, 1) := by decide +kernel
theorem dX1_ageAll_26 : decode cX1_ageAll 26 = .ok (.iload_n 3, 1) := by decide +kernel
theorem dX1_ageAll_27 : decode cX1_ageAll 27 = .ok (.invokevirtual 55, 3) := by decide +kernel
theorem dX1_ageAll_30 : decode cX1_ageAll 30 = .ok (.invokevirtual 64, 3) := by decide +kernel
theorem dX1_ageAll_33 : decode cX1_ageAll 33 = .ok (.ifCond .eq 7, 3) := by decide +kernel
theorem dX1_ageAll_36 : decode cX1_ageAll 36 = .ok (.iconst 1, 1) := by decide +kernel
theorem dX1_ageAll_37 : decode cX1_ageAll 37 = .ok (.goto 4, 3) := by decide +kernel
theorem dX1_ageAll_40 : decode cX1_ageAll 40 = .ok (.iconst 0, 1) := by decide +kernel
theorem dX1_ageAll_41 : decode cX1_ageAll 41 = .ok (.iadd, 1) := by decide +kernel
theorem dX1_ageAll_42 : decode cX1_ageAll 42 = .ok (.istore_n 1, 1) := by decide +kernel
theorem dX1_ageAll_43 : decode cX1_ageAll 43 = .ok (.iinc 3 1, 3) := by decide +kernel
theorem dX1_ageAll_46 : decode cX1_ageAll 46 = .ok (.goto (-32), 3) := by decide +kernel
theorem dX1_ageAll_49 : decode cX1_ageAll 49 = .ok (.iinc 2 1, 3) := by decide +kernel
theorem dX1_ageAll_52 : decode cX1_ageAll 52 = .ok (.goto (-48), 3) := by decide +kernel
theorem dX1_ageAll_55 : decode cX1_ageAll 55 = .ok (.iload_n 1, 1) := by decide +kernel
theorem dX1_ageAll_56 : decode cX1_ageAll 56 = .ok (.ireturn, 1) := by decide +kernel
theorem dX1_ageOne_0 : decode cX1_ageOne 0 = .ok (.aload_n 0, 1) := by decide +kernel
theorem dX1_ageOne_1 : decode cX1_ageOne 1 = .ok (.iload_n 1, 1) := by decide +kernel
theorem dX1_ageOne_2 : decode cX1_ageOne 2 = .ok (.invokevirtual 51, 3) := by decide +kernel
theorem dX1_ageOne_5 : decode cX1_ageOne 5 = .ok (.ifCond .eq 5, 3) := by decide +kernel
theorem dX1_ageOne_8 : decode cX1_ageOne 8 = .ok (.iconst 0, 1) := by decide +kernel
theorem dX1_ageOne_9 : decode cX1_ageOne 9 = .ok (.ireturn, 1) := by decide +kernel
theorem dX1_ageOne_10 : decode cX1_ageOne 10 = .ok (.aload_n 0, 1) := by decide +kernel
theorem dX1_ageOne_11 : decode cX1_ageOne 11 = .ok (.getfield 18, 3) := by decide +kernel
theorem dX1_ageOne_14 : decode cX1_ageOne 14 = .ok (.iload_n 1, 1) := by decide +kernel
theorem dX1_ageOne_15 : decode cX1_ageOne 15 = .ok (.dup2, 1) := by decide +kernel
theorem dX1_ageOne_16 : decode cX1_ageOne 16 = .ok (.iaload, 1) := by decide +kernel
theorem dX1_ageOne_17 : decode cX1_ageOne 17 = .ok (.iconst 1, 1) := by decide +kernel
theorem dX1_ageOne_18 : decode cX1_ageOne 18 = .ok (.iadd, 1) := by decide +kernel
theorem dX1_ageOne_19 : decode cX1_ageOne 19 = .ok (.iastore, 1) := by decide +kernel
theorem dX1_ageOne_20 : decode cX1_ageOne 20 = .ok (.aload_n 0, 1) := by decide +kernel
theorem dX1_ageOne_21 : decode cX1_ageOne 21 = .ok (.getfield 9, 3) := by decide +kernel
theorem dX1_ageOne_24 : decode cX1_ageOne 24 = .ok (.iload_n 1, 1) := by decide +kernel
theorem dX1_ageOne_25 : decode cX1_ageOne 25 = .ok (.iaload, 1) := by decide +kernel
theorem dX1_ageOne_26 : decode cX1_ageOne 26 = .ok (.ifCond .eq 21, 3) := by decide +kernel
theorem dX1_ageOne_29 : decode cX1_ageOne 29 = .ok (.aload_n 0, 1) := by decide +kernel
theorem dX1_ageOne_30 : decode cX1_ageOne 30 = .ok (.getfield 18, 3) := by decide +kernel
theorem dX1_ageOne_33 : decode cX1_ageOne 33 = .ok (.iload_n 1, 1) := by decide +kernel
theorem dX1_ageOne_34 : decode cX1_ageOne 34 = .ok (.iaload, 1) := by decide +kernel
theorem dX1_ageOne_35 : decode cX1_ageOne 35 = .ok (.bipush 16, 2) := by decide +kernel
theorem dX1_ageOne_37 : decode cX1_ageOne 37 = .ok (.aload_n 0, 1) := by decide +kernel
theorem dX1_ageOne_38 : decode cX1_ageOne 38 = .ok (.getfield 9, 3) := by decide +kernel
theorem dX1_ageOne_41 : decode cX1_ageOne 41 = .ok (.iload_n 1, 1) := by decide +kernel
theorem dX1_ageOne_42 : decode cX1_ageOne 42 = .ok (.iaload, 1) := by decide +kernel
theorem dX1_ageOne_43 : decode cX1_ageOne 43 = .ok (.isub, 1) := by decide +kernel
theorem dX1_ageOne_44 : decode cX1_ageOne 44 = .ok (.if_icmp .ge 5, 3) := by decide +kernel
theorem dX1_ageOne_47 : decode cX1_ageOne 47 = .ok (.iconst 0, 1) := by decide +kernel
theorem dX1_ageOne_48 : decode cX1_ageOne 48 = .ok (.ireturn, 1) := by decide +kernel
theorem dX1_ageOne_49 : decode cX1_ageOne 49 = .ok (.aload_n 0, 1) := by decide +kernel
theorem dX1_ageOne_50 : decode cX1_ageOne 50 = .ok (.getfield 9, 3) := by decide +kernel
theorem dX1_ageOne_53 : decode cX1_ageOne 53 = .ok (.iload_n 1, 1) := by decide +kernel
theorem dX1_ageOne_54 : decode cX1_ageOne 54 = .ok (.dup2, 1) := by decide +kernel
theorem dX1_ageOne_55 : decode cX1_ageOne 55 = .ok (.iaload, 1) := by decide +kernel
theorem dX1_ageOne_56 : decode cX1_ageOne 56 = .ok (.iconst 1, 1) := by decide +kernel
theorem dX1_ageOne_57 : decode cX1_ageOne 57 = .ok (.isub, 1) := by decide +kernel
theorem dX1_ageOne_58 : decode cX1_ageOne 58 = .ok (.iastore, 1) := by decide +kernel
theorem dX1_ageOne_59 : decode cX1_ageOne 59 = .ok (.aload_n 0, 1) := by decide +kernel
theorem dX1_ageOne_60 : decode cX1_ageOne 60 = .ok (.getfield 18, 3) := by decide +kernel
theorem dX1_ageOne_63 : decode cX1_ageOne 63 = .ok (.iload_n 1, 1) := by decide +kernel
theorem dX1_ageOne_64 : decode cX1_ageOne 64 = .ok (.iconst 0, 1) := by decide +kernel
theorem dX1_ageOne_65 : decode cX1_ageOne 65 = .ok (.iastore, 1) := by decide +kernel
theorem dX1_ageOne_66 : decode cX1_ageOne 66 = .ok (.iconst 1, 1) := by decide +kernel
theorem dX1_ageOne_67 : decode cX1_ageOne 67 = .ok (.ireturn, 1) := by decide +kernel
theorem dX1_pulseTo_0 : decode cX1_pulseTo 0 = .ok (.iconst 0, 1) := by decide +kernel
theorem dX1_pulseTo_1 : decode cX1_pulseTo 1 = .ok (.istore_n 3, 1) := by decide +kernel
theorem dX1_pulseTo_2 : decode cX1_pulseTo 2 = .ok (.iload_n 3, 1) := by decide +kernel
theorem dX1_pulseTo_3 : decode cX1_pulseTo 3 = .ok (.bipush 40, 2) := by decide +kernel
theorem dX1_pulseTo_5 : decode cX1_pulseTo 5 = .ok (.if_icmp .ge 68, 3) := by decide +kernel
theorem dX1_pulseTo_8 : decode cX1_pulseTo 8 = .ok (.aload_n 0, 1) := by decide +kernel
theorem dX1_pulseTo_9 : decode cX1_pulseTo 9 = .ok (.getfield 9, 3) := by decide +kernel
theorem dX1_pulseTo_12 : decode cX1_pulseTo 12 = .ok (.iload_n 1, 1) := by decide +kernel
theorem dX1_pulseTo_13 : decode cX1_pulseTo 13 = .ok (.iaload, 1) := by decide +kernel
theorem dX1_pulseTo_14 : decode cX1_pulseTo 14 = .ok (.iload_n 2, 1) := by decide +kernel
theorem dX1_pulseTo_15 : decode cX1_pulseTo 15 = .ok (.if_icmp .eq 58, 3) := by decide +kernel
theorem dX1_pulseTo_18 : decode cX1_pulseTo 18 = .ok (.aload_n 0, 1) := by decide +kernel
theorem dX1_pulseTo_19 : decode cX1_pulseTo 19 = .ok (.getfield 9, 3) := by decide +kernel
theorem dX1_pulseTo_22 : decode cX1_pulseTo 22 = .ok (.iload_n 1, 1) := by decide +kernel
theorem dX1_pulseTo_23 : decode cX1_pulseTo 23 = .ok (.aload_n 0, 1) := by decide +kernel
theorem dX1_pulseTo_24 : decode cX1_pulseTo 24 = .ok (.getfield 9, 3) := by decide +kernel
theorem dX1_pulseTo_27 : decode cX1_pulseTo 27 = .ok (.iload_n 1, 1) := by decide +kernel
theorem dX1_pulseTo_28 : decode cX1_pulseTo 28 = .ok (.iaload, 1) := by decide +kernel
theorem dX1_pulseTo_29 : decode cX1_pulseTo 29 = .ok (.iload_n 2, 1) := by decide +kernel
theorem dX1_pulseTo_30 : decode cX1_pulseTo 30 = .ok (.if_icmp .ge 21, 3) := by decide +kernel
theorem dX1_pulseTo_33 : decode cX1_pulseTo 33 = .ok (.aload_n 0, 1) := by decide +kernel
theorem dX1_pulseTo_34 : decode cX1_pulseTo 34 = .ok (.getfield 9, 3) := by decide +kernel
theorem dX1_pulseTo_37 : decode cX1_pulseTo 37 = .ok (.iload_n 1, 1) := by decide +kernel
theorem dX1_pulseTo_38 : decode cX1_pulseTo 38 = .ok (.iaload, 1) := by decide +kernel
theorem dX1_pulseTo_39 : decode cX1_pulseTo 39 = .ok (.iconst 2, 1) := by decide +kernel
theorem dX1_pulseTo_40 : decode cX1_pulseTo 40 = .ok (.iadd, 1) := by decide +kernel
theorem dX1_pulseTo_41 : decode cX1_pulseTo 41 = .ok (.aload_n 0, 1) := by decide +kernel
theorem dX1_pulseTo_42 : decode cX1_pulseTo 42 = .ok (.getfield 35, 3) := by decide +kernel
theorem dX1_pulseTo_45 : decode cX1_pulseTo 45 = .ok (.invokestatic 59, 3) := by decide +kernel
theorem dX1_pulseTo_48 : decode cX1_pulseTo 48 = .ok (.goto 11, 3) := by decide +kernel
theorem dX1_pulseTo_51 : decode cX1_pulseTo 51 = .ok (.aload_n 0, 1) := by decide +kernel
theorem dX1_pulseTo_52 : decode cX1_pulseTo 52 = .ok (.getfield 9, 3) := by decide +kernel
theorem dX1_pulseTo_55 : decode cX1_pulseTo 55 = .ok (.iload_n 1, 1) := by decide +kernel
theorem dX1_pulseTo_56 : decode cX1_pulseTo 56 = .ok (.iaload, 1) := by decide +kernel
theorem dX1_pulseTo_57 : decode cX1_pulseTo 57 = .ok (.iconst 1, 1) := by decide +kernel
theorem dX1_pulseTo_58 : decode cX1_pulseTo 58 = .ok (.isub, 1) := by decide +kernel
theorem dX1_pulseTo_59 : decode cX1_pulseTo 59 = .ok (.iastore, 1) := by decide +kernel
theorem dX1_pulseTo_60 : decode cX1_pulseTo 60 = .ok (.aload_n 0, 1) := by decide +kernel
theorem dX1_pulseTo_61 : decode cX1_pulseTo 61 = .ok (.getfield 18, 3) := by decide +kernel
theorem dX1_pulseTo_64 : decode cX1_pulseTo 64 = .ok (.iload_n 1, 1) := by decide +kernel
theorem dX1_pulseTo_65 : decode cX1_pulseTo 65 = .ok (.iconst 0, 1) := by decide +kernel
theorem dX1_pulseTo_66 : decode cX1_pulseTo 66 = .ok (.iastore, 1) := by decide +kernel
theorem dX1_pulseTo_67 : decode cX1_pulseTo 67 = .ok (.iinc 3 1, 3) := by decide +kernel
theorem dX1_pulseTo_70 : decode cX1_pulseTo 70 = .ok (.goto (-68), 3) := by decide +kernel
theorem dX1_pulseTo_73 : decode cX1_pulseTo 73 = .ok (.iload_n 3, 1) := by decide +kernel
theorem dX1_pulseTo_74 : decode cX1_pulseTo 74 = .ok (.ireturn, 1) := by decide +kernel
theorem dX1_addTo_0 : decode cX1_addTo 0 = .ok (.lload_n 1, 1) := by decide +kernel
theorem dX1_addTo_1 : decode cX1_addTo 1 = .ok (.lstore_n 3, 1) := by decide +kernel
theorem dX1_addTo_2 : decode cX1_addTo 2 = .ok (.iconst 0, 1) := by decide +kernel
theorem dX1_addTo_3 : decode cX1_addTo 3 = .ok (.istore 5, 2) := by decide +kernel
theorem dX1_addTo_5 : decode cX1_addTo 5 = .ok (.iload 5, 2) := by decide +kernel
theorem dX1_addTo_7 : decode cX1_addTo 7 = .ok (.aload_n 0, 1) := by decide +kernel
theorem dX1_addTo_8 : decode cX1_addTo 8 = .ok (.getfield 28, 3) := by decide +kernel
theorem dX1_addTo_11 : decode cX1_addTo 11 = .ok (.if_icmp .ge 64, 3) := by decide +kernel
theorem dX1_addTo_14 : decode cX1_addTo 14 = .ok (.iconst 0, 1) := by decide +kernel
theorem dX1_addTo_15 : decode cX1_addTo 15 = .ok (.istore 6, 2) := by decide +kernel
theorem dX1_addTo_17 : decode cX1_addTo 17 = .ok (.iload 6, 2) := by decide +kernel
theorem dX1_addTo_19 : decode cX1_addTo 19 = .ok (.aload_n 0, 1) := by decide +kernel
theorem dX1_addTo_20 : decode cX1_addTo 20 = .ok (.getfield 32, 3) := by decide +kernel
theorem dX1_addTo_23 : decode cX1_addTo 23 = .ok (.if_icmp .ge 46, 3) := by decide +kernel
theorem dX1_addTo_26 : decode cX1_addTo 26 = .ok (.iconst 0, 1) := by decide +kernel
theorem dX1_addTo_27 : decode cX1_addTo 27 = .ok (.istore 7, 2) := by decide +kernel
theorem dX1_addTo_29 : decode cX1_addTo 29 = .ok (.iload 7, 2) := by decide +kernel
theorem dX1_addTo_31 : decode cX1_addTo 31 = .ok (.iconst 2, 1) := by decide +kernel
theorem dX1_addTo_32 : decode cX1_addTo 32 = .ok (.if_icmp .gt 31, 3) := by decide +kernel
theorem dX1_addTo_35 : decode cX1_addTo 35 = .ok (.ldc2_w 67, 3) := by decide +kernel
theorem dX1_addTo_38 : decode cX1_addTo 38 = .ok (.lload_n 3, 1) := by decide +kernel
theorem dX1_addTo_39 : decode cX1_addTo 39 = .ok (.lmul, 1) := by decide +kernel
theorem dX1_addTo_40 : decode cX1_addTo 40 = .ok (.aload_n 0, 1) := by decide +kernel
theorem dX1_addTo_41 : decode cX1_addTo 41 = .ok (.aload_n 0, 1) := by decide +kernel
theorem dX1_addTo_42 : decode cX1_addTo 42 = .ok (.iload 5, 2) := by decide +kernel
theorem dX1_addTo_44 : decode cX1_addTo 44 = .ok (.iload 6, 2) := by decide +kernel
theorem dX1_addTo_46 : decode cX1_addTo 46 = .ok (.invokevirtual 55, 3) := by decide +kernel
theorem dX1_addTo_49 : decode cX1_addTo 49 = .ok (.iload 7, 2) := by decide +kernel
theorem dX1_addTo_51 : decode cX1_addTo 51 = .ok (.invokevirtual 69, 3) := by decide +kernel
theorem dX1_addTo_54 : decode cX1_addTo 54 = .ok (.i2l, 1) := by decide +kernel
theorem dX1_addTo_55 : decode cX1_addTo 55 = .ok (.ladd, 1) := by decide +kernel
theorem dX1_addTo_56 : decode cX1_addTo 56 = .ok (.lstore_n 3, 1) := by decide +kernel
theorem dX1_addTo_57 : decode cX1_addTo 57 = .ok (.iinc 7 1, 3) := by decide +kernel
theorem dX1_addTo_60 : decode cX1_addTo 60 = .ok (.goto (-31), 3) := by decide +kernel
theorem dX1_addTo_63 : decode cX1_addTo 63 = .ok (.iinc 6 1, 3) := by decide +kernel
theorem dX1_addTo_66 : decode cX1_addTo 66 = .ok (.goto (-49), 3) := by decide +kernel
theorem dX1_addTo_69 : decode cX1_addTo 69 = .ok (.iinc 5 1, 3) := by decide +kernel
theorem dX1_addTo_72 : decode cX1_addTo 72 = .ok (.goto (-67), 3) := by decide +kernel
theorem dX1_addTo_75 : decode cX1_addTo 75 = .ok (.iconst 0, 1) := by decide +kernel
theorem dX1_addTo_76 : decode cX1_addTo 76 = .ok (.istore 5, 2) := by decide +kernel
theorem dX1_addTo_78 : decode cX1_addTo 78 = .ok (.iload 5, 2) := by decide +kernel
theorem dX1_addTo_80 : decode cX1_addTo 80 = .ok (.aload_n 0, 1) := by decide +kernel
theorem dX1_addTo_81 : decode cX1_addTo 81 = .ok (.getfield 28, 3) := by decide +kernel
theorem dX1_addTo_84 : decode cX1_addTo 84 = .ok (.if_icmp .ge 24, 3) := by decide +kernel
theorem dX1_addTo_87 : decode cX1_addTo 87 = .ok (.ldc2_w 67, 3) := by decide +kernel
theorem dX1_addTo_90 : decode cX1_addTo 90 = .ok (.lload_n 3, 1) := by decide +kernel
theorem dX1_addTo_91 : decode cX1_addTo 91 = .ok (.lmul, 1) := by decide +kernel
theorem dX1_addTo_92 : decode cX1_addTo 92 = .ok (.aload_n 0, 1) := by decide +kernel
theorem dX1_addTo_93 : decode cX1_addTo 93 = .ok (.getfield 21, 3) := by decide +kernel
theorem dX1_addTo_96 : decode cX1_addTo 96 = .ok (.iload 5, 2) := by decide +kernel
theorem dX1_addTo_98 : decode cX1_addTo 98 = .ok (.iaload, 1) := by decide +kernel
theorem dX1_addTo_99 : decode cX1_addTo 99 = .ok (.i2l, 1) := by decide +kernel
theorem dX1_addTo_100 : decode cX1_addTo 100 = .ok (.ladd, 1) := by decide +kernel
theorem dX1_addTo_101 : decode cX1_addTo 101 = .ok (.lstore_n 3, 1) := by decide +kernel
theorem dX1_addTo_102 : decode cX1_addTo 102 = .ok (.iinc 5 1, 3) := by decide +kernel
theorem dX1_addTo_105 : decode cX1_addTo 105 = .ok (.goto (-27), 3) := by decide +kernel
theorem dX1_addTo_108 : decode cX1_addTo 108 = .ok (.lload_n 3, 1) := by decide +kernel
theorem dX1_addTo_109 : decode cX1_addTo 109 = .ok (.lreturn, 1) := by decide +kernel
theorem dX2_init_0 : decode cX2_init 0 = .ok (.aload_n 0, 1) := by decide +kernel
theorem dX2_init_1 : decode cX2_init 1 = .ok (.invokespecial 3, 3) := by decide +kernel
theorem dX2_init_4 : decode cX2_init 4 = .ok (.aload_n 0, 1) := by decide +kernel
theorem dX2_init_5 : decode cX2_init 5 = .ok (.sipush 8000, 3) := by decide +kernel
theorem dX2_init_8 : decode cX2_init 8 = .ok (.newarray .long, 2) := by decide +kernel
theorem dX2_init_10 : decode cX2_init 10 = .ok (.putfield 9, 3) := by decide +kernel
theorem dX2_init_13 : decode cX2_init 13 = .ok (.aload_n 0, 1) := by decide +kernel
theorem dX2_init_14 : decode cX2_init 14 = .ok (.sipush 2048, 3) := by decide +kernel
theorem dX2_init_17 : decode cX2_init 17 = .ok (.newarray .int, 2) := by decide +kernel
theorem dX2_init_19 : decode cX2_init 19 = .ok (.putfield 15, 3) := by decide +kernel
theorem dX2_init_22 : decode cX2_init 22 = .ok (.aload_n 0, 1) := by decide +kernel
theorem dX2_init_23 : decode cX2_init 23 = .ok (.iconst 5, 1) := by decide +kernel
theorem dX2_init_24 : decode cX2_init 24 = .ok (.newarray .int, 2) := by decide +kernel
theorem dX2_init_26 : decode cX2_init 26 = .ok (.putfield 19, 3) := by decide +kernel
theorem dX2_init_29 : decode cX2_init 29 = .ok (.aload_n 0, 1) := by decide +kernel
theorem dX2_init_30 : decode cX2_init 30 = .ok (.bipush 16, 2) := by decide +kernel
theorem dX2_init_32 : decode cX2_init 32 = .ok (.newarray .int, 2) := by decide +kernel
theorem dX2_init_34 : decode cX2_init 34 = .ok (.putfield 22, 3) := by decide +kernel
theorem dX2_init_37 : decode cX2_init 37 = .ok (.aload_n 0, 1) := by decide +kernel
theorem dX2_init_38 : decode cX2_init 38 = .ok (.iconst (-1), 1) := by decide +kernel
theorem dX2_init_39 : decode cX2_init 39 = .ok (.putfield 25, 3) := by decide +kernel
theorem dX2_init_42 : decode cX2_init 42 = .ok (.return_, 1) := by decide +kernel
theorem dX2_seek_0 : decode cX2_seek 0 = .ok (.aload_n 0, 1) := by decide +kernel
theorem dX2_seek_1 : decode cX2_seek 1 = .ok (.iload_n 1, 1) := by decide +kernel
theorem dX2_seek_2 : decode cX2_seek 2 = .ok (.iload_n 2, 1) := by decide +kernel
theorem dX2_seek_3 : decode cX2_seek 3 = .ok (.invokevirtual 29, 3) := by decide +kernel
theorem dX2_seek_6 : decode cX2_seek 6 = .ok (.iconst 0, 1) := by decide +kernel
theorem dX2_seek_7 : decode cX2_seek 7 = .ok (.istore 4, 2) := by decide +kernel
theorem dX2_seek_9 : decode cX2_seek 9 = .ok (.iload 4, 2) := by decide +kernel
theorem dX2_seek_11 : decode cX2_seek 11 = .ok (.sipush 8000, 3) := by decide +kernel
theorem dX2_seek_14 : decode cX2_seek 14 = .ok (.if_icmp .ge 70, 3) := by decide +kernel
theorem dX2_seek_17 : decode cX2_seek 17 = .ok (.iload 4, 2) := by decide +kernel
theorem dX2_seek_19 : decode cX2_seek 19 = .ok (.aload_n 0, 1) := by decide +kernel
theorem dX2_seek_20 : decode cX2_seek 20 = .ok (.getfield 33, 3) := by decide +kernel
theorem dX2_seek_23 : decode cX2_seek 23 = .ok (.if_icmp .ge 61, 3) := by decide +kernel
theorem dX2_seek_26 : decode cX2_seek 26 = .ok (.aload_n 0, 1) := by decide +kernel
theorem dX2_seek_27 : decode cX2_seek 27 = .ok (.aload_n 0, 1) := by decide +kernel
theorem dX2_seek_28 : decode cX2_seek 28 = .ok (.getfield 9, 3) := by decide +kernel
theorem dX2_seek_31 : decode cX2_seek 31 = .ok (.iload 4, 2) := by decide +kernel
theorem dX2_seek_33 : decode cX2_seek 33 = .ok (.laload, 1) := by decide +kernel
theorem dX2_seek_34 : decode cX2_seek 34 = .ok (.invokestatic 36, 3) := by decide +kernel
theorem dX2_seek_37 : decode cX2_seek 37 = .ok (.invokevirtual 40, 3) := by decide +kernel
theorem dX2_seek_40 : decode cX2_seek 40 = .ok (.aload_n 0, 1) := by decide +kernel
theorem dX2_seek_41 : decode cX2_seek 41 = .ok (.iload_n 3, 1) := by decide +kernel
theorem dX2_seek_42 : decode cX2_seek 42 = .ok (.invokevirtual 44, 3) := by decide +kernel
theorem dX2_seek_45 : decode cX2_seek 45 = .ok (.istore 5, 2) := by decide +kernel
theorem dX2_seek_47 : decode cX2_seek 47 = .ok (.iload 5, 2) := by decide +kernel
theorem dX2_seek_49 : decode cX2_seek 49 = .ok (.iconst (-1), 1) := by decide +kernel
theorem dX2_seek_50 : decode cX2_seek 50 = .ok (.if_icmp .eq 16, 3) := by decide +kernel
theorem dX2_seek_53 : decode cX2_seek 53 = .ok (.aload_n 0, 1) := by decide +kernel
theorem dX2_seek_54 : decode cX2_seek 54 = .ok (.iload 4, 2) := by decide +kernel
theorem dX2_seek_56 : decode cX2_seek 56 = .ok (.iload 5, 2) := by decide +kernel
theorem dX2_seek_58 : decode cX2_seek 58 = .ok (.invokevirtual 48, 3) := by decide +kernel
theorem dX2_seek_61 : decode cX2_seek 61 = .ok (.aload_n 0, 1) := by decide +kernel
theorem dX2_seek_62 : decode cX2_seek 62 = .ok (.getfield 51, 3) := by decide +kernel
theorem dX2_seek_65 : decode cX2_seek 65 = .ok (.ireturn, 1) := by decide +kernel
theorem dX2_seek_66 : decode cX2_seek 66 = .ok (.aload_n 0, 1) := by decide +kernel
theorem dX2_seek_67 : decode cX2_seek 67 = .ok (.iload 4, 2) := by decide +kernel
theorem dX2_seek_69 : decode cX2_seek 69 = .ok (.invokevirtual 54, 3) := by decide +kernel
theorem dX2_seek_72 : decode cX2_seek 72 = .ok (.ifCond .ne 6, 3) := by decide +kernel
theorem dX2_seek_75 : decode cX2_seek 75 = .ok (.bipush (-5), 2) := by decide +kernel
theorem dX2_seek_77 : decode cX2_seek 77 = .ok (.ireturn, 1) := by decide +kernel
theorem dX2_seek_78 : decode cX2_seek 78 = .ok (.iinc 4 1, 3) := by decide +kernel
theorem dX2_seek_81 : decode cX2_seek 81 = .ok (.goto (-72), 3) := by decide +kernel
theorem dX2_seek_84 : decode cX2_seek 84 = .ok (.iconst (-1), 1) := by decide +kernel
theorem dX2_seek_85 : decode cX2_seek 85 = .ok (.ireturn, 1) := by decide +kernel
theorem dX2_begin_0 : decode cX2_begin 0 = .ok (.aload_n 0, 1) := by decide +kernel
theorem dX2_begin_1 : decode cX2_begin 1 = .ok (.iload_n 1, 1) := by decide +kernel
theorem dX2_begin_2 : decode cX2_begin 2 = .ok (.putfield 58, 3) := by decide +kernel
theorem dX2_begin_5 : decode cX2_begin 5 = .ok (.aload_n 0, 1) := by decide +kernel
theorem dX2_begin_6 : decode cX2_begin 6 = .ok (.iload_n 2, 1) := by decide +kernel
theorem dX2_begin_7 : decode cX2_begin 7 = .ok (.putfield 61, 3) := by decide +kernel
theorem dX2_begin_10 : decode cX2_begin 10 = .ok (.aload_n 0, 1) := by decide +kernel
theorem dX2_begin_11 : decode cX2_begin 11 = .ok (.iconst 1, 1) := by decide +kernel
theorem dX2_begin_12 : decode cX2_begin 12 = .ok (.iload_n 1, 1) := by decide +kernel
theorem dX2_begin_13 : decode cX2_begin 13 = .ok (.ishl, 1) := by decide +kernel
theorem dX2_begin_14 : decode cX2_begin 14 = .ok (.putfield 64, 3) := by decide +kernel
theorem dX2_begin_17 : decode cX2_begin 17 = .ok (.aload_n 0, 1) := by decide +kernel
theorem dX2_begin_18 : decode cX2_begin 18 = .ok (.iload_n 1, 1) := by decide +kernel
theorem dX2_begin_19 : decode cX2_begin 19 = .ok (.invokestatic 67, 3) := by decide +kernel
theorem dX2_begin_22 : decode cX2_begin 22 = .ok (.putfield 70, 3) := by decide +kernel
theorem dX2_begin_25 : decode cX2_begin 25 = .ok (.aload_n 0, 1) := by decide +kernel
theorem dX2_begin_26 : decode cX2_begin 26 = .ok (.getfield 15, 3) := by decide +kernel
theorem dX2_begin_29 : decode cX2_begin 29 = .ok (.iconst 0, 1) := by decide +kernel
theorem dX2_begin_30 : decode cX2_begin 30 = .ok (.invokestatic 73, 3) := by decide +kernel
theorem dX2_begin_33 : decode cX2_begin 33 = .ok (.aload_n 0, 1) := by decide +kernel
theorem dX2_begin_34 : decode cX2_begin 34 = .ok (.iconst 0, 1) := by decide +kernel
theorem dX2_begin_35 : decode cX2_begin 35 = .ok (.putfield 33, 3) := by decide +kernel
theorem dX2_begin_38 : decode cX2_begin 38 = .ok (.iconst 0, 1) := by decide +kernel
theorem dX2_begin_39 : decode cX2_begin 39 = .ok (.istore_n 3, 1) := by decide +kernel
theorem dX2_begin_40 : decode cX2_begin 40 = .ok (.iload_n 3, 1) := by decide +kernel
theorem dX2_begin_41 : decode cX2_begin 41 = .ok (.iload_n 1, 1) := by decide +kernel
theorem dX2_begin_42 : decode cX2_begin 42 = .ok (.if_icmp .ge 20, 3) := by decide +kernel
theorem dX2_begin_45 : decode cX2_begin 45 = .ok (.aload_n 0, 1) := by decide +kernel
theorem dX2_begin_46 : decode cX2_begin 46 = .ok (.getfield 19, 3) := by decide +kernel
theorem dX2_begin_49 : decode cX2_begin 49 = .ok (.iload_n 3, 1) := by decide +kernel
theorem dX2_begin_50 : decode cX2_begin 50 = .ok (.aload_n 0, 1) := by decide +kernel
theorem dX2_begin_51 : decode cX2_begin 51 = .ok (.iload_n 3, 1) := by decide +kernel
theorem dX2_begin_52 : decode cX2_begin 52 = .ok (.invokevirtual 79, 3) := by decide +kernel
theorem dX2_begin_55 : decode cX2_begin 55 = .ok (.iastore, 1) := by decide +kernel
theorem dX2_begin_56 : decode cX2_begin 56 = .ok (.iinc 3 1, 3) := by decide +kernel
theorem dX2_begin_59 : decode cX2_begin 59 = .ok (.goto (-19), 3) := by decide +kernel
theorem dX2_begin_62 : decode cX2_begin 62 = .ok (.aload_n 0, 1) := by decide +kernel
theorem dX2_begin_63 : decode cX2_begin 63 = .ok (.iconst 0, 1) := by decide +kernel
theorem dX2_begin_64 : decode cX2_begin 64 = .ok (.iconst 0, 1) := by decide +kernel
theorem dX2_begin_65 : decode cX2_begin 65 = .ok (.iconst 0, 1) := by decide +kernel
theorem dX2_begin_66 : decode cX2_begin 66 = .ok (.invokevirtual 82, 3) := by decide +kernel
theorem dX2_begin_69 : decode cX2_begin 69 = .ok (.pop, 1) := by decide +kernel
theorem dX2_begin_70 : decode cX2_begin 70 = .ok (.return_, 1) := by decide +kernel
theorem dX2_inputTable_0 : decode cX2_inputTable 0 = .ok (.iconst 0, 1) := by decide +kernel
theorem dX2_inputTable_1 : decode cX2_inputTable 1 = .ok (.istore_n 2, 1) := by decide +kernel
theorem dX2_inputTable_2 : decode cX2_inputTable 2 = .ok (.iconst 0, 1) := by decide +kernel
theorem dX2_inputTable_3 : decode cX2_inputTable 3 = .ok (.istore_n 3, 1) := by decide +kernel
theorem dX2_inputTable_4 : decode cX2_inputTable 4 = .ok (.iload_n 3, 1) := by decide +kernel
theorem dX2_inputTable_5 : decode cX2_inputTable 5 = .ok (.aload_n 0, 1) := by decide +kernel
theorem dX2_inputTable_6 : decode cX2_inputTable 6 = .ok (.getfield 64, 3) := by decide +kernel
theorem dX2_inputTable_9 : decode cX2_inputTable 9 = .ok (.if_icmp .ge 19, 3) := by decide +kernel
theorem dX2_inputTable_12 : decode cX2_inputTable 12 = .ok (.iload_n 2, 1) := by decide +kernel
theorem dX2_inputTable_13 : decode cX2_inputTable 13 = .ok (.iload_n 3, 1) := by decide +kernel
theorem dX2_inputTable_14 : decode cX2_inputTable 14 = .ok (.iload_n 1, 1) := by decide +kernel
theorem dX2_inputTable_15 : decode cX2_inputTable 15 = .ok (.ishr, 1) := by decide +kernel
theorem dX2_inputTable_16 : decode cX2_inputTable 16 = .ok (.iconst 1, 1) := by decide +kernel
theorem dX2_inputTable_17 : decode cX2_inputTable 17 = .ok (.iand, 1) := by decide +kernel
theorem dX2_inputTable_18 : decode cX2_inputTable 18 = .ok (.iload_n 3, 1) := by decide +kernel
theorem dX2_inputTable_19 : decode cX2_inputTable 19 = .ok (.ishl, 1) := by decide +kernel
theorem dX2_inputTable_20 : decode cX2_inputTable 20 = .ok (.ior, 1) := by decide +kernel
theorem dX2_inputTable_21 : decode cX2_inputTable 21 = .ok (.istore_n 2, 1) := by decide +kernel
theorem dX2_inputTable_22 : decode cX2_inputTable 22 = .ok (.iinc 3 1, 3) := by decide +kernel
theorem dX2_inputTable_25 : decode cX2_inputTable 25 = .ok (.goto (-21), 3) := by decide +kernel
theorem dX2_inputTable_28 : decode cX2_inputTable 28 = .ok (.iload_n 2, 1) := by decide +kernel
theorem dX2_inputTable_29 : decode cX2_inputTable 29 = .ok (.ireturn, 1) := by decide +kernel
theorem dX2_shiftOf_0 : decode cX2_shiftOf 0 = .ok (.iload_n 1, 1) := by decide +kernel
theorem dX2_shiftOf_1 : decode cX2_shiftOf 1 = .ok (.aload_n 0, 1) := by decide +kernel
theorem dX2_shiftOf_2 : decode cX2_shiftOf 2 = .ok (.getfield 58, 3) := by decide +kernel
theorem dX2_shiftOf_5 : decode cX2_shiftOf 5 = .ok (.isub, 1) := by decide +kernel
theorem dX2_shiftOf_6 : decode cX2_shiftOf 6 = .ok (.aload_n 0, 1) := by decide +kernel
theorem dX2_shiftOf_7 : decode cX2_shiftOf 7 = .ok (.getfield 64, 3) := by decide +kernel
theorem dX2_shiftOf_10 : decode cX2_shiftOf 10 = .ok (.imul, 1) := by decide +kernel
theorem dX2_shiftOf_11 : decode cX2_shiftOf 11 = .ok (.ireturn, 1) := by decide +kernel
theorem dX2_openState_0 : decode cX2_openState 0 = .ok (.aload_n 0, 1) := by decide +kernel
theorem dX2_openState_1 : decode cX2_openState 1 = .ok (.getfield 58, 3) := by decide +kernel
theorem dX2_openState_4 : decode cX2_openState 4 = .ok (.istore_n 2, 1) := by decide +kernel
theorem dX2_openState_5 : decode cX2_openState 5 = .ok (.iload_n 2, 1) := by decide +kernel
theorem dX2_openState_6 : decode cX2_openState 6 = .ok (.aload_n 0, 1) := by decide +kernel
theorem dX2_openState_7 : decode cX2_openState 7 = .ok (.getfield 61, 3) := by decide +kernel
theorem dX2_openState_10 : decode cX2_openState 10 = .ok (.if_icmp .ge 27, 3) := by decide +kernel
theorem dX2_openState_13 : decode cX2_openState 13 = .ok (.aload_n 0, 1) := by decide +kernel
theorem dX2_openState_14 : decode cX2_openState 14 = .ok (.getfield 19, 3) := by decide +kernel
theorem dX2_openState_17 : decode cX2_openState 17 = .ok (.iload_n 2, 1) := by decide +kernel
theorem dX2_openState_18 : decode cX2_openState 18 = .ok (.iload_n 1, 1) := by decide +kernel
theorem dX2_openState_19 : decode cX2_openState 19 = .ok (.aload_n 0, 1) := by decide +kernel
theorem dX2_openState_20 : decode cX2_openState 20 = .ok (.iload_n 2, 1) := by decide +kernel
theorem dX2_openState_21 : decode cX2_openState 21 = .ok (.invokevirtual 86, 3) := by decide +kernel
theorem dX2_openState_24 : decode cX2_openState 24 = .ok (.ishr, 1) := by decide +kernel
theorem dX2_openState_25 : decode cX2_openState 25 = .ok (.aload_n 0, 1) := by decide +kernel
theorem dX2_openState_26 : decode cX2_openState 26 = .ok (.getfield 70, 3) := by decide +kernel
theorem dX2_openState_29 : decode cX2_openState 29 = .ok (.iand, 1) := by decide +kernel
theorem dX2_openState_30 : decode cX2_openState 30 = .ok (.iastore, 1) := by decide +kernel
theorem dX2_openState_31 : decode cX2_openState 31 = .ok (.iinc 2 1, 3) := by decide +kernel
theorem dX2_openState_34 : decode cX2_openState 34 = .ok (.goto (-29), 3) := by decide +kernel
theorem dX2_openState_37 : decode cX2_openState 37 = .ok (.return_, 1) := by decide +kernel
theorem dX2_cellWith_0 : decode cX2_cellWith 0 = .ok (.iconst 0, 1) := by decide +kernel
theorem dX2_cellWith_1 : decode cX2_cellWith 1 = .ok (.istore_n 2, 1) := by decide +kernel
theorem dX2_cellWith_2 : decode cX2_cellWith 2 = .ok (.iload_n 2, 1) := by decide +kernel
theorem dX2_cellWith_3 : decode cX2_cellWith 3 = .ok (.aload_n 0, 1) := by decide +kernel
theorem dX2_cellWith_4 : decode cX2_cellWith 4 = .ok (.getfield 61, 3) := by decide +kernel
theorem dX2_cellWith_7 : decode cX2_cellWith 7 = .ok (.if_icmp .ge 21, 3) := by decide +kernel
theorem dX2_cellWith_10 : decode cX2_cellWith 10 = .ok (.aload_n 0, 1) := by decide +kernel
theorem dX2_cellWith_11 : decode cX2_cellWith 11 = .ok (.getfield 19, 3) := by decide +kernel
theorem dX2_cellWith_14 : decode cX2_cellWith 14 = .ok (.iload_n 2, 1) := by decide +kernel
theorem dX2_cellWith_15 : decode cX2_cellWith 15 = .ok (.iaload, 1) := by decide +kernel
theorem dX2_cellWith_16 : decode cX2_cellWith 16 = .ok (.iload_n 1, 1) := by decide +kernel
theorem dX2_cellWith_17 : decode cX2_cellWith 17 = .ok (.if_icmp .ne 5, 3) := by decide +kernel
theorem dX2_cellWith_20 : decode cX2_cellWith 20 = .ok (.iload_n 2, 1) := by decide +kernel
theorem dX2_cellWith_21 : decode cX2_cellWith 21 = .ok (.ireturn, 1) := by decide +kernel
theorem dX2_cellWith_22 : decode cX2_cellWith 22 = .ok (.iinc 2 1, 3) := by decide +kernel
theorem dX2_cellWith_25 : decode cX2_cellWith 25 = .ok (.goto (-23), 3) := by decide +kernel
theorem dX2_cellWith_28 : decode cX2_cellWith 28 = .ok (.iconst (-1), 1) := by decide +kernel
theorem dX2_cellWith_29 : decode cX2_cellWith 29 = .ok (.ireturn, 1) := by decide +kernel
theorem dX2_meetAllFrom_0 : decode cX2_meetAllFrom 0 = .ok (.iconst 0, 1) := by decide +kernel
theorem dX2_meetAllFrom_1 : decode cX2_meetAllFrom 1 = .ok (.istore_n 2, 1) := by decide +kernel
theorem dX2_meetAllFrom_2 : decode cX2_meetAllFrom 2 = .ok (.iload_n 2, 1) := by decide +kernel
theorem dX2_meetAllFrom_3 : decode cX2_meetAllFrom 3 = .ok (.aload_n 0, 1) := by decide +kernel
theorem dX2_meetAllFrom_4 : decode cX2_meetAllFrom 4 = .ok (.getfield 61, 3) := by decide +kernel
theorem dX2_meetAllFrom_7 : decode cX2_meetAllFrom 7 = .ok (.if_icmp .ge 37, 3) := by decide +kernel
theorem dX2_meetAllFrom_10 : decode cX2_meetAllFrom 10 = .ok (.iload_n 2, 1) := by decide +kernel
theorem dX2_meetAllFrom_11 : decode cX2_meetAllFrom 11 = .ok (.istore_n 3, 1) := by decide +kernel
theorem dX2_meetAllFrom_12 : decode cX2_meetAllFrom 12 = .ok (.iload_n 3, 1) := by decide +kernel
theorem dX2_meetAllFrom_13 : decode cX2_meetAllFrom 13 = .ok (.aload_n 0, 1) := by decide +kernel
theorem dX2_meetAllFrom_14 : decode cX2_meetAllFrom 14 = .ok (.getfield 61, 3) := by decide +kernel
theorem dX2_meetAllFrom_17 : decode cX2_meetAllFrom 17 = .ok (.if_icmp .ge 21, 3) := by decide +kernel
theorem dX2_meetAllFrom_20 : decode cX2_meetAllFrom 20 = .ok (.aload_n 0, 1) := by decide +kernel
theorem dX2_meetAllFrom_21 : decode cX2_meetAllFrom 21 = .ok (.iload_n 1, 1) := by decide +kernel
theorem dX2_meetAllFrom_22 : decode cX2_meetAllFrom 22 = .ok (.iload_n 2, 1) := by decide +kernel
theorem dX2_meetAllFrom_23 : decode cX2_meetAllFrom 23 = .ok (.iload_n 3, 1) := by decide +kernel
theorem dX2_meetAllFrom_24 : decode cX2_meetAllFrom 24 = .ok (.invokevirtual 89, 3) := by decide +kernel
theorem dX2_meetAllFrom_27 : decode cX2_meetAllFrom 27 = .ok (.ifCond .ne 5, 3) := by decide +kernel
theorem dX2_meetAllFrom_30 : decode cX2_meetAllFrom 30 = .ok (.iconst 0, 1) := by decide +kernel
theorem dX2_meetAllFrom_31 : decode cX2_meetAllFrom 31 = .ok (.ireturn, 1) := by decide +kernel
theorem dX2_meetAllFrom_32 : decode cX2_meetAllFrom 32 = .ok (.iinc 3 1, 3) := by decide +kernel
theorem dX2_meetAllFrom_35 : decode cX2_meetAllFrom 35 = .ok (.goto (-23), 3) := by decide +kernel
theorem dX2_meetAllFrom_38 : decode cX2_meetAllFrom 38 = .ok (.iinc 2 1, 3) := by decide +kernel
theorem dX2_meetAllFrom_41 : decode cX2_meetAllFrom 41 = .ok (.goto (-39), 3) := by decide +kernel
theorem dX2_meetAllFrom_44 : decode cX2_meetAllFrom 44 = .ok (.iconst 1, 1) := by decide +kernel
theorem dX2_meetAllFrom_45 : decode cX2_meetAllFrom 45 = .ok (.ireturn, 1) := by decide +kernel
theorem dX2_meetByActs_0 : decode cX2_meetByActs 0 = .ok (.aload_n 0, 1) := by decide +kernel
theorem dX2_meetByActs_1 : decode cX2_meetByActs 1 = .ok (.getfield 19, 3) := by decide +kernel
theorem dX2_meetByActs_4 : decode cX2_meetByActs 4 = .ok (.iload_n 2, 1) := by decide +kernel
theorem dX2_meetByActs_5 : decode cX2_meetByActs 5 = .ok (.iaload, 1) := by decide +kernel
theorem dX2_meetByActs_6 : decode cX2_meetByActs 6 = .ok (.aload_n 0, 1) := by decide +kernel
theorem dX2_meetByActs_7 : decode cX2_meetByActs 7 = .ok (.getfield 19, 3) := by decide +kernel
theorem dX2_meetByActs_10 : decode cX2_meetByActs 10 = .ok (.iload_n 3, 1) := by decide +kernel
theorem dX2_meetByActs_11 : decode cX2_meetByActs 11 = .ok (.iaload, 1) := by decide +kernel
theorem dX2_meetByActs_12 : decode cX2_meetByActs 12 = .ok (.ior, 1) := by decide +kernel
theorem dX2_meetByActs_13 : decode cX2_meetByActs 13 = .ok (.iconst (-1), 1) := by decide +kernel
theorem dX2_meetByActs_14 : decode cX2_meetByActs 14 = .ok (.ixor, 1) := by decide +kernel
theorem dX2_meetByActs_15 : decode cX2_meetByActs 15 = .ok (.aload_n 0, 1) := by decide +kernel
theorem dX2_meetByActs_16 : decode cX2_meetByActs 16 = .ok (.getfield 70, 3) := by decide +kernel
theorem dX2_meetByActs_19 : decode cX2_meetByActs 19 = .ok (.iand, 1) := by decide +kernel
theorem dX2_meetByActs_20 : decode cX2_meetByActs 20 = .ok (.istore 4, 2) := by decide +kernel
theorem dX2_meetByActs_22 : decode cX2_meetByActs 22 = .ok (.aload_n 0, 1) := by decide +kernel
theorem dX2_meetByActs_23 : decode cX2_meetByActs 23 = .ok (.getfield 58, 3) := by decide +kernel
theorem dX2_meetByActs_26 : decode cX2_meetByActs 26 = .ok (.istore 5, 2) := by decide +kernel
theorem dX2_meetByActs_28 : decode cX2_meetByActs 28 = .ok (.iload 5, 2) := by decide +kernel
theorem dX2_meetByActs_30 : decode cX2_meetByActs 30 = .ok (.aload_n 0, 1) := by decide +kernel
theorem dX2_meetByActs_31 : decode cX2_meetByActs 31 = .ok (.getfield 61, 3) := by decide +kernel
theorem dX2_meetByActs_34 : decode cX2_meetByActs 34 = .ok (.if_icmp .ge 75, 3) := by decide +kernel
theorem dX2_meetByActs_37 : decode cX2_meetByActs 37 = .ok (.iload 5, 2) := by decide +kernel
theorem dX2_meetByActs_39 : decode cX2_meetByActs 39 = .ok (.iload_n 2, 1) := by decide +kernel
theorem dX2_meetByActs_40 : decode cX2_meetByActs 40 = .ok (.if_icmp .eq 63, 3) := by decide +kernel
theorem dX2_meetByActs_43 : decode cX2_meetByActs 43 = .ok (.iload 5, 2) := by decide +kernel
theorem dX2_meetByActs_45 : decode cX2_meetByActs 45 = .ok (.iload_n 3, 1) := by decide +kernel
theorem dX2_meetByActs_46 : decode cX2_meetByActs 46 = .ok (.if_icmp .eq 57, 3) := by decide +kernel
theorem dX2_meetByActs_49 : decode cX2_meetByActs 49 = .ok (.aload_n 0, 1) := by decide +kernel
theorem dX2_meetByActs_50 : decode cX2_meetByActs 50 = .ok (.getfield 9, 3) := by decide +kernel
theorem dX2_meetByActs_53 : decode cX2_meetByActs 53 = .ok (.iload_n 1, 1) := by decide +kernel
theorem dX2_meetByActs_54 : decode cX2_meetByActs 54 = .ok (.laload, 1) := by decide +kernel
theorem dX2_meetByActs_55 : decode cX2_meetByActs 55 = .ok (.invokestatic 36, 3) := by decide +kernel
theorem dX2_meetByActs_58 : decode cX2_meetByActs 58 = .ok (.aload_n 0, 1) := by decide +kernel
theorem dX2_meetByActs_59 : decode cX2_meetByActs 59 = .ok (.getfield 70, 3) := by decide +kernel
theorem dX2_meetByActs_62 : decode cX2_meetByActs 62 = .ok (.aload_n 0, 1) := by decide +kernel
theorem dX2_meetByActs_63 : decode cX2_meetByActs 63 = .ok (.iload 5, 2) := by decide +kernel
theorem dX2_meetByActs_65 : decode cX2_meetByActs 65 = .ok (.invokevirtual 86, 3) := by decide +kernel
theorem dX2_meetByActs_68 : decode cX2_meetByActs 68 = .ok (.ishl, 1) := by decide +kernel
theorem dX2_meetByActs_69 : decode cX2_meetByActs 69 = .ok (.iconst (-1), 1) := by decide +kernel
theorem dX2_meetByActs_70 : decode cX2_meetByActs 70 = .ok (.ixor, 1) := by decide +kernel
theorem dX2_meetByActs_71 : decode cX2_meetByActs 71 = .ok (.iand, 1) := by decide +kernel
theorem dX2_meetByActs_72 : decode cX2_meetByActs 72 = .ok (.istore 6, 2) := by decide +kernel
theorem dX2_meetByActs_74 : decode cX2_meetByActs 74 = .ok (.aload_n 0, 1) := by decide +kernel
theorem dX2_meetByActs_75 : decode cX2_meetByActs 75 = .ok (.iload 6, 2) := by decide +kernel
theorem dX2_meetByActs_77 : decode cX2_meetByActs 77 = .ok (.iload 4, 2) := by decide +kernel
theorem dX2_meetByActs_79 : decode cX2_meetByActs 79 = .ok (.aload_n 0, 1) := by decide +kernel
theorem dX2_meetByActs_80 : decode cX2_meetByActs 80 = .ok (.iload 5, 2) := by decide +kernel
theorem dX2_meetByActs_82 : decode cX2_meetByActs 82 = .ok (.invokevirtual 86, 3) := by decide +kernel
theorem dX2_meetByActs_85 : decode cX2_meetByActs 85 = .ok (.ishl, 1) := by decide +kernel
theorem dX2_meetByActs_86 : decode cX2_meetByActs 86 = .ok (.ior, 1) := by decide +kernel
theorem dX2_meetByActs_87 : decode cX2_meetByActs 87 = .ok (.iload_n 1, 1) := by decide +kernel
theorem dX2_meetByActs_88 : decode cX2_meetByActs 88 = .ok (.iload_n 2, 1) := by decide +kernel
theorem dX2_meetByActs_89 : decode cX2_meetByActs 89 = .ok (.iload_n 3, 1) := by decide +kernel
theorem dX2_meetByActs_90 : decode cX2_meetByActs 90 = .ok (.iload 5, 2) := by decide +kernel
theorem dX2_meetByActs_92 : decode cX2_meetByActs 92 = .ok (.invokestatic 92, 3) := by decide +kernel
theorem dX2_meetByActs_95 : decode cX2_meetByActs 95 = .ok (.invokevirtual 82, 3) := by decide +kernel
theorem dX2_meetByActs_98 : decode cX2_meetByActs 98 = .ok (.ifCond .ne 5, 3) := by decide +kernel
theorem dX2_meetByActs_101 : decode cX2_meetByActs 101 = .ok (.iconst 0, 1) := by decide +kernel
theorem dX2_meetByActs_102 : decode cX2_meetByActs 102 = .ok (.ireturn, 1) := by decide +kernel
theorem dX2_meetByActs_103 : decode cX2_meetByActs 103 = .ok (.iinc 5 1, 3) := by decide +kernel
theorem dX2_meetByActs_106 : decode cX2_meetByActs 106 = .ok (.goto (-78), 3) := by decide +kernel
theorem dX2_meetByActs_109 : decode cX2_meetByActs 109 = .ok (.iconst 1, 1) := by decide +kernel
theorem dX2_meetByActs_110 : decode cX2_meetByActs 110 = .ok (.ireturn, 1) := by decide +kernel
theorem dX2_meet_0 : decode cX2_meet 0 = .ok (.iload_n 1, 1) := by decide +kernel
theorem dX2_meet_1 : decode cX2_meet 1 = .ok (.iconst 5, 1) := by decide +kernel
theorem dX2_meet_2 : decode cX2_meet 2 = .ok (.ishr, 1) := by decide +kernel
theorem dX2_meet_3 : decode cX2_meet 3 = .ok (.istore 4, 2) := by decide +kernel
theorem dX2_meet_5 : decode cX2_meet 5 = .ok (.iconst 1, 1) := by decide +kernel
theorem dX2_meet_6 : decode cX2_meet 6 = .ok (.iload_n 1, 1) := by decide +kernel
theorem dX2_meet_7 : decode cX2_meet 7 = .ok (.bipush 31, 2) := by decide +kernel
theorem dX2_meet_9 : decode cX2_meet 9 = .ok (.iand, 1) := by decide +kernel
theorem dX2_meet_10 : decode cX2_meet 10 = .ok (.ishl, 1) := by decide +kernel
theorem dX2_meet_11 : decode cX2_meet 11 = .ok (.istore 5, 2) := by decide +kernel
theorem dX2_meet_13 : decode cX2_meet 13 = .ok (.aload_n 0, 1) := by decide +kernel
theorem dX2_meet_14 : decode cX2_meet 14 = .ok (.getfield 15, 3) := by decide +kernel
theorem dX2_meet_17 : decode cX2_meet 17 = .ok (.iload 4, 2) := by decide +kernel
theorem dX2_meet_19 : decode cX2_meet 19 = .ok (.iaload, 1) := by decide +kernel
theorem dX2_meet_20 : decode cX2_meet 20 = .ok (.iload 5, 2) := by decide +kernel
theorem dX2_meet_22 : decode cX2_meet 22 = .ok (.iand, 1) := by decide +kernel
theorem dX2_meet_23 : decode cX2_meet 23 = .ok (.ifCond .eq 5, 3) := by decide +kernel
theorem dX2_meet_26 : decode cX2_meet 26 = .ok (.iconst 1, 1) := by decide +kernel
theorem dX2_meet_27 : decode cX2_meet 27 = .ok (.ireturn, 1) := by decide +kernel
theorem dX2_meet_28 : decode cX2_meet 28 = .ok (.aload_n 0, 1) := by decide +kernel
theorem dX2_meet_29 : decode cX2_meet 29 = .ok (.getfield 33, 3) := by decide +kernel
theorem dX2_meet_32 : decode cX2_meet 32 = .ok (.sipush 8000, 3) := by decide +kernel
theorem dX2_meet_35 : decode cX2_meet 35 = .ok (.if_icmp .lt 5, 3) := by decide +kernel
theorem dX2_meet_38 : decode cX2_meet 38 = .ok (.iconst 0, 1) := by decide +kernel
theorem dX2_meet_39 : decode cX2_meet 39 = .ok (.ireturn, 1) := by decide +kernel
theorem dX2_meet_40 : decode cX2_meet 40 = .ok (.aload_n 0, 1) := by decide +kernel
theorem dX2_meet_41 : decode cX2_meet 41 = .ok (.getfield 15, 3) := by decide +kernel
theorem dX2_meet_44 : decode cX2_meet 44 = .ok (.iload 4, 2) := by decide +kernel
theorem dX2_meet_46 : decode cX2_meet 46 = .ok (.dup2, 1) := by decide +kernel
theorem dX2_meet_47 : decode cX2_meet 47 = .ok (.iaload, 1) := by decide +kernel
theorem dX2_meet_48 : decode cX2_meet 48 = .ok (.iload 5, 2) := by decide +kernel
theorem dX2_meet_50 : decode cX2_meet 50 = .ok (.ior, 1) := by decide +kernel
theorem dX2_meet_51 : decode cX2_meet 51 = .ok (.iastore, 1) := by decide +kernel
theorem dX2_meet_52 : decode cX2_meet 52 = .ok (.aload_n 0, 1) := by decide +kernel
theorem dX2_meet_53 : decode cX2_meet 53 = .ok (.getfield 9, 3) := by decide +kernel
theorem dX2_meet_56 : decode cX2_meet 56 = .ok (.aload_n 0, 1) := by decide +kernel
theorem dX2_meet_57 : decode cX2_meet 57 = .ok (.getfield 33, 3) := by decide +kernel
theorem dX2_meet_60 : decode cX2_meet 60 = .ok (.iload_n 1, 1) := by decide +kernel
theorem dX2_meet_61 : decode cX2_meet 61 = .ok (.iload_n 2, 1) := by decide +kernel
theorem dX2_meet_62 : decode cX2_meet 62 = .ok (.iload_n 3, 1) := by decide +kernel
theorem dX2_meet_63 : decode cX2_meet 63 = .ok (.invokestatic 96, 3) := by decide +kernel
theorem dX2_meet_66 : decode cX2_meet 66 = .ok (.lastore, 1) := by decide +kernel
theorem dX2_meet_67 : decode cX2_meet 67 = .ok (.aload_n 0, 1) := by decide +kernel
theorem dX2_meet_68 : decode cX2_meet 68 = .ok (.dup, 1) := by decide +kernel
theorem dX2_meet_69 : decode cX2_meet 69 = .ok (.getfield 33, 3) := by decide +kernel
theorem dX2_meet_72 : decode cX2_meet 72 = .ok (.iconst 1, 1) := by decide +kernel
theorem dX2_meet_73 : decode cX2_meet 73 = .ok (.iadd, 1) := by decide +kernel
theorem dX2_meet_74 : decode cX2_meet 74 = .ok (.putfield 33, 3) := by decide +kernel
theorem dX2_meet_77 : decode cX2_meet 77 = .ok (.iconst 1, 1) := by decide +kernel
theorem dX2_meet_78 : decode cX2_meet 78 = .ok (.ireturn, 1) := by decide +kernel
theorem dX2_keep_0 : decode cX2_keep 0 = .ok (.aload_n 0, 1) := by decide +kernel
theorem dX2_keep_1 : decode cX2_keep 1 = .ok (.iload_n 2, 1) := by decide +kernel
theorem dX2_keep_2 : decode cX2_keep 2 = .ok (.putfield 25, 3) := by decide +kernel
theorem dX2_keep_5 : decode cX2_keep 5 = .ok (.aload_n 0, 1) := by decide +kernel
theorem dX2_keep_6 : decode cX2_keep 6 = .ok (.iconst 0, 1) := by decide +kernel
theorem dX2_keep_7 : decode cX2_keep 7 = .ok (.putfield 51, 3) := by decide +kernel
theorem dX2_keep_10 : decode cX2_keep 10 = .ok (.iload_n 1, 1) := by decide +kernel
theorem dX2_keep_11 : decode cX2_keep 11 = .ok (.istore_n 3, 1) := by decide +kernel
theorem dX2_keep_12 : decode cX2_keep 12 = .ok (.iload_n 3, 1) := by decide +kernel
theorem dX2_keep_13 : decode cX2_keep 13 = .ok (.ifCond .le 36, 3) := by decide +kernel
theorem dX2_keep_16 : decode cX2_keep 16 = .ok (.aload_n 0, 1) := by decide +kernel
theorem dX2_keep_17 : decode cX2_keep 17 = .ok (.getfield 51, 3) := by decide +kernel
theorem dX2_keep_20 : decode cX2_keep 20 = .ok (.sipush 8000, 3) := by decide +kernel
theorem dX2_keep_23 : decode cX2_keep 23 = .ok (.if_icmp .ge 26, 3) := by decide +kernel
theorem dX2_keep_26 : decode cX2_keep 26 = .ok (.aload_n 0, 1) := by decide +kernel
theorem dX2_keep_27 : decode cX2_keep 27 = .ok (.dup, 1) := by decide +kernel
theorem dX2_keep_28 : decode cX2_keep 28 = .ok (.getfield 51, 3) := by decide +kernel
theorem dX2_keep_31 : decode cX2_keep 31 = .ok (.iconst 1, 1) := by decide +kernel
theorem dX2_keep_32 : decode cX2_keep 32 = .ok (.iadd, 1) := by decide +kernel
theorem dX2_keep_33 : decode cX2_keep 33 = .ok (.putfield 51, 3) := by decide +kernel
theorem dX2_keep_36 : decode cX2_keep 36 = .ok (.aload_n 0, 1) := by decide +kernel
theorem dX2_keep_37 : decode cX2_keep 37 = .ok (.getfield 9, 3) := by decide +kernel
theorem dX2_keep_40 : decode cX2_keep 40 = .ok (.iload_n 3, 1) := by decide +kernel
theorem dX2_keep_41 : decode cX2_keep 41 = .ok (.laload, 1) := by decide +kernel
theorem dX2_keep_42 : decode cX2_keep 42 = .ok (.invokestatic 100, 3) := by decide +kernel
theorem dX2_keep_45 : decode cX2_keep 45 = .ok (.istore_n 3, 1) := by decide +kernel
theorem dX2_keep_46 : decode cX2_keep 46 = .ok (.goto (-34), 3) := by decide +kernel
theorem dX2_keep_49 : decode cX2_keep 49 = .ok (.aload_n 0, 1) := by decide +kernel
theorem dX2_keep_50 : decode cX2_keep 50 = .ok (.getfield 51, 3) := by decide +kernel
theorem dX2_keep_53 : decode cX2_keep 53 = .ok (.aload_n 0, 1) := by decide +kernel
theorem dX2_keep_54 : decode cX2_keep 54 = .ok (.getfield 22, 3) := by decide +kernel
theorem dX2_keep_57 : decode cX2_keep 57 = .ok (.arraylength, 1) := by decide +kernel
theorem dX2_keep_58 : decode cX2_keep 58 = .ok (.if_icmp .le 13, 3) := by decide +kernel
theorem dX2_keep_61 : decode cX2_keep 61 = .ok (.aload_n 0, 1) := by decide +kernel
theorem dX2_keep_62 : decode cX2_keep 62 = .ok (.aload_n 0, 1) := by decide +kernel
theorem dX2_keep_63 : decode cX2_keep 63 = .ok (.getfield 51, 3) := by decide +kernel
theorem dX2_keep_66 : decode cX2_keep 66 = .ok (.newarray .int, 2) := by decide +kernel
theorem dX2_keep_68 : decode cX2_keep 68 = .ok (.putfield 22, 3) := by decide +kernel
theorem dX2_keep_71 : decode cX2_keep 71 = .ok (.aload_n 0, 1) := by decide +kernel
theorem dX2_keep_72 : decode cX2_keep 72 = .ok (.getfield 51, 3) := by decide +kernel
theorem dX2_keep_75 : decode cX2_keep 75 = .ok (.iconst 1, 1) := by decide +kernel
theorem dX2_keep_76 : decode cX2_keep 76 = .ok (.isub, 1) := by decide +kernel
theorem dX2_keep_77 : decode cX2_keep 77 = .ok (.istore_n 3, 1) := by decide +kernel
theorem dX2_keep_78 : decode cX2_keep 78 = .ok (.iload_n 1, 1) := by decide +kernel
theorem dX2_keep_79 : decode cX2_keep 79 = .ok (.istore 4, 2) := by decide +kernel
theorem dX2_keep_81 : decode cX2_keep 81 = .ok (.iload 4, 2) := by decide +kernel
theorem dX2_keep_83 : decode cX2_keep 83 = .ok (.ifCond .le 41, 3) := by decide +kernel
theorem dX2_keep_86 : decode cX2_keep 86 = .ok (.iload_n 3, 1) := by decide +kernel
theorem dX2_keep_87 : decode cX2_keep 87 = .ok (.ifCond .lt 37, 3) := by decide +kernel
theorem dX2_keep_90 : decode cX2_keep 90 = .ok (.aload_n 0, 1) := by decide +kernel
theorem dX2_keep_91 : decode cX2_keep 91 = .ok (.getfield 22, 3) := by decide +kernel
theorem dX2_keep_94 : decode cX2_keep 94 = .ok (.iload_n 3, 1) := by decide +kernel
theorem dX2_keep_95 : decode cX2_keep 95 = .ok (.aload_n 0, 1) := by decide +kernel
theorem dX2_keep_96 : decode cX2_keep 96 = .ok (.getfield 9, 3) := by decide +kernel
theorem dX2_keep_99 : decode cX2_keep 99 = .ok (.iload 4, 2) := by decide +kernel
theorem dX2_keep_101 : decode cX2_keep 101 = .ok (.laload, 1) := by decide +kernel
theorem dX2_keep_102 : decode cX2_keep 102 = .ok (.invokestatic 103, 3) := by decide +kernel
theorem dX2_keep_105 : decode cX2_keep 105 = .ok (.iastore, 1) := by decide +kernel
theorem dX2_keep_106 : decode cX2_keep 106 = .ok (.iinc 3 (-1), 3) := by decide +kernel
theorem dX2_keep_109 : decode cX2_keep 109 = .ok (.aload_n 0, 1) := by decide +kernel
theorem dX2_keep_110 : decode cX2_keep 110 = .ok (.getfield 9, 3) := by decide +kernel
theorem dX2_keep_113 : decode cX2_keep 113 = .ok (.iload 4, 2) := by decide +kernel
theorem dX2_keep_115 : decode cX2_keep 115 = .ok (.laload, 1) := by decide +kernel
theorem dX2_keep_116 : decode cX2_keep 116 = .ok (.invokestatic 100, 3) := by decide +kernel
theorem dX2_keep_119 : decode cX2_keep 119 = .ok (.istore 4, 2) := by decide +kernel
theorem dX2_keep_121 : decode cX2_keep 121 = .ok (.goto (-40), 3) := by decide +kernel
theorem dX2_keep_124 : decode cX2_keep 124 = .ok (.return_, 1) := by decide +kernel
theorem dX2_addTo_0 : decode cX2_addTo 0 = .ok (.lload_n 1, 1) := by decide +kernel
theorem dX2_addTo_1 : decode cX2_addTo 1 = .ok (.lstore_n 3, 1) := by decide +kernel
theorem dX2_addTo_2 : decode cX2_addTo 2 = .ok (.iconst 0, 1) := by decide +kernel
theorem dX2_addTo_3 : decode cX2_addTo 3 = .ok (.istore 5, 2) := by decide +kernel
theorem dX2_addTo_5 : decode cX2_addTo 5 = .ok (.iload 5, 2) := by decide +kernel
theorem dX2_addTo_7 : decode cX2_addTo 7 = .ok (.aload_n 0, 1) := by decide +kernel
theorem dX2_addTo_8 : decode cX2_addTo 8 = .ok (.getfield 51, 3) := by decide +kernel
theorem dX2_addTo_11 : decode cX2_addTo 11 = .ok (.if_icmp .ge 44, 3) := by decide +kernel
theorem dX2_addTo_14 : decode cX2_addTo 14 = .ok (.iconst 0, 1) := by decide +kernel
theorem dX2_addTo_15 : decode cX2_addTo 15 = .ok (.istore 6, 2) := by decide +kernel
theorem dX2_addTo_17 : decode cX2_addTo 17 = .ok (.iload 6, 2) := by decide +kernel
theorem dX2_addTo_19 : decode cX2_addTo 19 = .ok (.iconst 2, 1) := by decide +kernel
theorem dX2_addTo_20 : decode cX2_addTo 20 = .ok (.if_icmp .gt 29, 3) := by decide +kernel
theorem dX2_addTo_23 : decode cX2_addTo 23 = .ok (.ldc2_w 106, 3) := by decide +kernel
theorem dX2_addTo_26 : decode cX2_addTo 26 = .ok (.lload_n 3, 1) := by decide +kernel
theorem dX2_addTo_27 : decode cX2_addTo 27 = .ok (.lmul, 1) := by decide +kernel
theorem dX2_addTo_28 : decode cX2_addTo 28 = .ok (.aload_n 0, 1) := by decide +kernel
theorem dX2_addTo_29 : decode cX2_addTo 29 = .ok (.getfield 22, 3) := by decide +kernel
theorem dX2_addTo_32 : decode cX2_addTo 32 = .ok (.iload 5, 2) := by decide +kernel
theorem dX2_addTo_34 : decode cX2_addTo 34 = .ok (.iaload, 1) := by decide +kernel
theorem dX2_addTo_35 : decode cX2_addTo 35 = .ok (.iload 6, 2) := by decide +kernel
theorem dX2_addTo_37 : decode cX2_addTo 37 = .ok (.invokestatic 108, 3) := by decide +kernel
theorem dX2_addTo_40 : decode cX2_addTo 40 = .ok (.i2l, 1) := by decide +kernel
theorem dX2_addTo_41 : decode cX2_addTo 41 = .ok (.ladd, 1) := by decide +kernel
theorem dX2_addTo_42 : decode cX2_addTo 42 = .ok (.lstore_n 3, 1) := by decide +kernel
theorem dX2_addTo_43 : decode cX2_addTo 43 = .ok (.iinc 6 1, 3) := by decide +kernel
theorem dX2_addTo_46 : decode cX2_addTo 46 = .ok (.goto (-29), 3) := by decide +kernel
theorem dX2_addTo_49 : decode cX2_addTo 49 = .ok (.iinc 5 1, 3) := by decide +kernel
theorem dX2_addTo_52 : decode cX2_addTo 52 = .ok (.goto (-47), 3) := by decide +kernel
theorem dX2_addTo_55 : decode cX2_addTo 55 = .ok (.lload_n 3, 1) := by decide +kernel
theorem dX2_addTo_56 : decode cX2_addTo 56 = .ok (.lreturn, 1) := by decide +kernel
theorem dX3_init_0 : decode cX3_init 0 = .ok (.aload_n 0, 1) := by decide +kernel
theorem dX3_init_1 : decode cX3_init 1 = .ok (.invokespecial 3, 3) := by decide +kernel
theorem dX3_init_4 : decode cX3_init 4 = .ok (.aload_n 0, 1) := by decide +kernel
theorem dX3_init_5 : decode cX3_init 5 = .ok (.bipush 96, 2) := by decide +kernel
theorem dX3_init_7 : decode cX3_init 7 = .ok (.newarray .int, 2) := by decide +kernel
theorem dX3_init_9 : decode cX3_init 9 = .ok (.putfield 9, 3) := by decide +kernel
theorem dX3_init_12 : decode cX3_init 12 = .ok (.aload_n 0, 1) := by decide +kernel
theorem dX3_init_13 : decode cX3_init 13 = .ok (.bipush 8, 2) := by decide +kernel
theorem dX3_init_15 : decode cX3_init 15 = .ok (.newarray .int, 2) := by decide +kernel
theorem dX3_init_17 : decode cX3_init 17 = .ok (.putfield 15, 3) := by decide +kernel
theorem dX3_init_20 : decode cX3_init 20 = .ok (.aload_n 0, 1) := by decide +kernel
theorem dX3_init_21 : decode cX3_init 21 = .ok (.bipush 24, 2) := by decide +kernel
theorem dX3_init_23 : decode cX3_init 23 = .ok (.newarray .int, 2) := by decide +kernel
theorem dX3_init_25 : decode cX3_init 25 = .ok (.putfield 18, 3) := by decide +kernel
theorem dX3_init_28 : decode cX3_init 28 = .ok (.aload_n 0, 1) := by decide +kernel
theorem dX3_init_29 : decode cX3_init 29 = .ok (.bipush 64, 2) := by decide +kernel
theorem dX3_init_31 : decode cX3_init 31 = .ok (.newarray .int, 2) := by decide +kernel
theorem dX3_init_33 : decode cX3_init 33 = .ok (.putfield 21, 3) := by decide +kernel
theorem dX3_init_36 : decode cX3_init 36 = .ok (.aload_n 0, 1) := by decide +kernel
theorem dX3_init_37 : decode cX3_init 37 = .ok (.sipush 256, 3) := by decide +kernel
theorem dX3_init_40 : decode cX3_init 40 = .ok (.newarray .int, 2) := by decide +kernel
theorem dX3_init_42 : decode cX3_init 42 = .ok (.putfield 24, 3) := by decide +kernel
theorem dX3_init_45 : decode cX3_init 45 = .ok (.aload_n 0, 1) := by decide +kernel
theorem dX3_init_46 : decode cX3_init 46 = .ok (.aload_n 1, 1) := by decide +kernel
theorem dX3_init_47 : decode cX3_init 47 = .ok (.putfield 27, 3) := by decide +kernel
theorem dX3_init_50 : decode cX3_init 50 = .ok (.return_, 1) := by decide +kernel
theorem dX3_exists_0 : decode cX3_exists 0 = .ok (.aload_n 0, 1) := by decide +kernel
theorem dX3_exists_1 : decode cX3_exists 1 = .ok (.getfield 31, 3) := by decide +kernel
theorem dX3_exists_4 : decode cX3_exists 4 = .ok (.ifCond .le 7, 3) := by decide +kernel
theorem dX3_exists_7 : decode cX3_exists 7 = .ok (.iconst 1, 1) := by decide +kernel
theorem dX3_exists_8 : decode cX3_exists 8 = .ok (.goto 4, 3) := by decide +kernel
theorem dX3_exists_11 : decode cX3_exists 11 = .ok (.iconst 0, 1) := by decide +kernel
theorem dX3_exists_12 : decode cX3_exists 12 = .ok (.ireturn, 1) := by decide +kernel
theorem dX3_drop_0 : decode cX3_drop 0 = .ok (.aload_n 0, 1) := by decide +kernel
theorem dX3_drop_1 : decode cX3_drop 1 = .ok (.iconst 0, 1) := by decide +kernel
theorem dX3_drop_2 : decode cX3_drop 2 = .ok (.putfield 31, 3) := by decide +kernel
theorem dX3_drop_5 : decode cX3_drop 5 = .ok (.aload_n 0, 1) := by decide +kernel
theorem dX3_drop_6 : decode cX3_drop 6 = .ok (.iconst 0, 1) := by decide +kernel
theorem dX3_drop_7 : decode cX3_drop 7 = .ok (.putfield 35, 3) := by decide +kernel
theorem dX3_drop_10 : decode cX3_drop 10 = .ok (.aload_n 0, 1) := by decide +kernel
theorem dX3_drop_11 : decode cX3_drop 11 = .ok (.iconst 0, 1) := by decide +kernel
theorem dX3_drop_12 : decode cX3_drop 12 = .ok (.putfield 38, 3) := by decide +kernel
theorem dX3_drop_15 : decode cX3_drop 15 = .ok (.aload_n 0, 1) := by decide +kernel
theorem dX3_drop_16 : decode cX3_drop 16 = .ok (.iconst 0, 1) := by decide +kernel
theorem dX3_drop_17 : decode cX3_drop 17 = .ok (.putfield 41, 3) := by decide +kernel
theorem dX3_drop_20 : decode cX3_drop 20 = .ok (.return_, 1) := by decide +kernel
theorem dX3_begin_0 : decode cX3_begin 0 = .ok (.aload_n 0, 1) := by decide +kernel
theorem dX3_begin_1 : decode cX3_begin 1 = .ok (.iload_n 1, 1) := by decide +kernel
theorem dX3_begin_2 : decode cX3_begin 2 = .ok (.putfield 31, 3) := by decide +kernel
theorem dX3_begin_5 : decode cX3_begin 5 = .ok (.aload_n 0, 1) := by decide +kernel
theorem dX3_begin_6 : decode cX3_begin 6 = .ok (.iload_n 2, 1) := by decide +kernel
theorem dX3_begin_7 : decode cX3_begin 7 = .ok (.putfield 35, 3) := by decide +kernel
theorem dX3_begin_10 : decode cX3_begin 10 = .ok (.aload_n 0, 1) := by decide +kernel
theorem dX3_begin_11 : decode cX3_begin 11 = .ok (.iload_n 3, 1) := by decide +kernel
theorem dX3_begin_12 : decode cX3_begin 12 = .ok (.putfield 38, 3) := by decide +kernel
theorem dX3_begin_15 : decode cX3_begin 15 = .ok (.aload_n 0, 1) := by decide +kernel
theorem dX3_begin_16 : decode cX3_begin 16 = .ok (.aload_n 0, 1) := by decide +kernel
theorem dX3_begin_17 : decode cX3_begin 17 = .ok (.invokevirtual 45, 3) := by decide +kernel
theorem dX3_begin_20 : decode cX3_begin 20 = .ok (.iload_n 3, 1) := by decide +kernel
theorem dX3_begin_21 : decode cX3_begin 21 = .ok (.invokestatic 49, 3) := by decide +kernel
theorem dX3_begin_24 : decode cX3_begin 24 = .ok (.iconst 1, 1) := by decide +kernel
theorem dX3_begin_25 : decode cX3_begin 25 = .ok (.isub, 1) := by decide +kernel
theorem dX3_begin_26 : decode cX3_begin 26 = .ok (.putfield 53, 3) := by decide +kernel
theorem dX3_begin_29 : decode cX3_begin 29 = .ok (.aload_n 0, 1) := by decide +kernel
theorem dX3_begin_30 : decode cX3_begin 30 = .ok (.iconst 0, 1) := by decide +kernel
theorem dX3_begin_31 : decode cX3_begin 31 = .ok (.putfield 41, 3) := by decide +kernel
theorem dX3_begin_34 : decode cX3_begin 34 = .ok (.aload_n 0, 1) := by decide +kernel
theorem dX3_begin_35 : decode cX3_begin 35 = .ok (.getfield 9, 3) := by decide +kernel
theorem dX3_begin_38 : decode cX3_begin 38 = .ok (.iconst 0, 1) := by decide +kernel
theorem dX3_begin_39 : decode cX3_begin 39 = .ok (.invokestatic 56, 3) := by decide +kernel
theorem dX3_begin_42 : decode cX3_begin 42 = .ok (.iconst 0, 1) := by decide +kernel
theorem dX3_begin_43 : decode cX3_begin 43 = .ok (.istore 4, 2) := by decide +kernel
theorem dX3_begin_45 : decode cX3_begin 45 = .ok (.iload 4, 2) := by decide +kernel
theorem dX3_begin_47 : decode cX3_begin 47 = .ok (.bipush 8, 2) := by decide +kernel
theorem dX3_begin_49 : decode cX3_begin 49 = .ok (.if_icmp .ge 18, 3) := by decide +kernel
theorem dX3_begin_52 : decode cX3_begin 52 = .ok (.aload_n 0, 1) := by decide +kernel
theorem dX3_begin_53 : decode cX3_begin 53 = .ok (.getfield 15, 3) := by decide +kernel
theorem dX3_begin_56 : decode cX3_begin 56 = .ok (.iload 4, 2) := by decide +kernel
theorem dX3_begin_58 : decode cX3_begin 58 = .ok (.iload 4, 2) := by decide +kernel
theorem dX3_begin_60 : decode cX3_begin 60 = .ok (.iastore, 1) := by decide +kernel
theorem dX3_begin_61 : decode cX3_begin 61 = .ok (.iinc 4 1, 3) := by decide +kernel
theorem dX3_begin_64 : decode cX3_begin 64 = .ok (.goto (-19), 3) := by decide +kernel
theorem dX3_begin_67 : decode cX3_begin 67 = .ok (.return_, 1) := by decide +kernel
theorem dX3_base_0 : decode cX3_base 0 = .ok (.aload_n 0, 1) := by decide +kernel
theorem dX3_base_1 : decode cX3_base 1 = .ok (.getfield 27, 3) := by decide +kernel
theorem dX3_base_4 : decode cX3_base 4 = .ok (.getfield 62, 3) := by decide +kernel
theorem dX3_base_7 : decode cX3_base 7 = .ok (.iconst 1, 1) := by decide +kernel
theorem dX3_base_8 : decode cX3_base 8 = .ok (.iadd, 1) := by decide +kernel
theorem dX3_base_9 : decode cX3_base 9 = .ok (.ireturn, 1) := by decide +kernel
theorem dX3_power_0 : decode cX3_power 0 = .ok (.iconst 1, 1) := by decide +kernel
theorem dX3_power_1 : decode cX3_power 1 = .ok (.istore_n 2, 1) := by decide +kernel
theorem dX3_power_2 : decode cX3_power 2 = .ok (.iconst 0, 1) := by decide +kernel
theorem dX3_power_3 : decode cX3_power 3 = .ok (.istore_n 3, 1) := by decide +kernel
theorem dX3_power_4 : decode cX3_power 4 = .ok (.iload_n 3, 1) := by decide +kernel
theorem dX3_power_5 : decode cX3_power 5 = .ok (.iload_n 1, 1) := by decide +kernel
theorem dX3_power_6 : decode cX3_power 6 = .ok (.if_icmp .ge 13, 3) := by decide +kernel
theorem dX3_power_9 : decode cX3_power 9 = .ok (.iload_n 2, 1) := by decide +kernel
theorem dX3_power_10 : decode cX3_power 10 = .ok (.iload_n 0, 1) := by decide +kernel
theorem dX3_power_11 : decode cX3_power 11 = .ok (.imul, 1) := by decide +kernel
theorem dX3_power_12 : decode cX3_power 12 = .ok (.istore_n 2, 1) := by decide +kernel
theorem dX3_power_13 : decode cX3_power 13 = .ok (.iinc 3 1, 3) := by decide +kernel
theorem dX3_power_16 : decode cX3_power 16 = .ok (.goto (-12), 3) := by decide +kernel
theorem dX3_power_19 : decode cX3_power 19 = .ok (.iload_n 2, 1) := by decide +kernel
theorem dX3_power_20 : decode cX3_power 20 = .ok (.ireturn, 1) := by decide +kernel
theorem dX3_numberAt_0 : decode cX3_numberAt 0 = .ok (.aload_n 0, 1) := by decide +kernel
theorem dX3_numberAt_1 : decode cX3_numberAt 1 = .ok (.getfield 9, 3) := by decide +kernel
theorem dX3_numberAt_4 : decode cX3_numberAt 4 = .ok (.iload_n 1, 1) := by decide +kernel
theorem dX3_numberAt_5 : decode cX3_numberAt 5 = .ok (.bipush 12, 2) := by decide +kernel
theorem dX3_numberAt_7 : decode cX3_numberAt 7 = .ok (.imul, 1) := by decide +kernel
theorem dX3_numberAt_8 : decode cX3_numberAt 8 = .ok (.iload_n 2, 1) := by decide +kernel
theorem dX3_numberAt_9 : decode cX3_numberAt 9 = .ok (.iadd, 1) := by decide +kernel
theorem dX3_numberAt_10 : decode cX3_numberAt 10 = .ok (.iaload, 1) := by decide +kernel
theorem dX3_numberAt_11 : decode cX3_numberAt 11 = .ok (.ireturn, 1) := by decide +kernel
theorem dX3_exchange_0 : decode cX3_exchange 0 = .ok (.aload_n 0, 1) := by decide +kernel
theorem dX3_exchange_1 : decode cX3_exchange 1 = .ok (.iload_n 1, 1) := by decide +kernel
theorem dX3_exchange_2 : decode cX3_exchange 2 = .ok (.iload_n 2, 1) := by decide +kernel
theorem dX3_exchange_3 : decode cX3_exchange 3 = .ok (.invokevirtual 67, 3) := by decide +kernel
theorem dX3_exchange_6 : decode cX3_exchange 6 = .ok (.istore 4, 2) := by decide +kernel
theorem dX3_exchange_8 : decode cX3_exchange 8 = .ok (.aload_n 0, 1) := by decide +kernel
theorem dX3_exchange_9 : decode cX3_exchange 9 = .ok (.getfield 9, 3) := by decide +kernel
theorem dX3_exchange_12 : decode cX3_exchange 12 = .ok (.iload_n 1, 1) := by decide +kernel
theorem dX3_exchange_13 : decode cX3_exchange 13 = .ok (.bipush 12, 2) := by decide +kernel
theorem dX3_exchange_15 : decode cX3_exchange 15 = .ok (.imul, 1) := by decide +kernel
theorem dX3_exchange_16 : decode cX3_exchange 16 = .ok (.iload_n 2, 1) := by decide +kernel
theorem dX3_exchange_17 : decode cX3_exchange 17 = .ok (.iadd, 1) := by decide +kernel
theorem dX3_exchange_18 : decode cX3_exchange 18 = .ok (.iload_n 3, 1) := by decide +kernel
theorem dX3_exchange_19 : decode cX3_exchange 19 = .ok (.iastore, 1) := by decide +kernel
theorem dX3_exchange_20 : decode cX3_exchange 20 = .ok (.iload 4, 2) := by decide +kernel
theorem dX3_exchange_22 : decode cX3_exchange 22 = .ok (.ireturn, 1) := by decide +kernel
theorem dX3_usedColumns_0 : decode cX3_usedColumns 0 = .ok (.iconst 2, 1) := by decide +kernel
theorem dX3_usedColumns_1 : decode cX3_usedColumns 1 = .ok (.aload_n 0, 1) := by decide +kernel
theorem dX3_usedColumns_2 : decode cX3_usedColumns 2 = .ok (.getfield 38, 3) := by decide +kernel
theorem dX3_usedColumns_5 : decode cX3_usedColumns 5 = .ok (.imul, 1) := by decide +kernel
theorem dX3_usedColumns_6 : decode cX3_usedColumns 6 = .ok (.aload_n 0, 1) := by decide +kernel
theorem dX3_usedColumns_7 : decode cX3_usedColumns 7 = .ok (.getfield 35, 3) := by decide +kernel
theorem dX3_usedColumns_10 : decode cX3_usedColumns 10 = .ok (.imul, 1) := by decide +kernel
theorem dX3_usedColumns_11 : decode cX3_usedColumns 11 = .ok (.ireturn, 1) := by decide +kernel
theorem dX3_spellRow_0 : decode cX3_spellRow 0 = .ok (.aload_n 0, 1) := by decide +kernel
theorem dX3_spellRow_1 : decode cX3_spellRow 1 = .ok (.invokevirtual 45, 3) := by decide +kernel
theorem dX3_spellRow_4 : decode cX3_spellRow 4 = .ok (.istore_n 2, 1) := by decide +kernel
theorem dX3_spellRow_5 : decode cX3_spellRow 5 = .ok (.aload_n 0, 1) := by decide +kernel
theorem dX3_spellRow_6 : decode cX3_spellRow 6 = .ok (.getfield 18, 3) := by decide +kernel
theorem dX3_spellRow_9 : decode cX3_spellRow 9 = .ok (.iconst 0, 1) := by decide +kernel
theorem dX3_spellRow_10 : decode cX3_spellRow 10 = .ok (.invokestatic 56, 3) := by decide +kernel
theorem dX3_spellRow_13 : decode cX3_spellRow 13 = .ok (.iconst 0, 1) := by decide +kernel
theorem dX3_spellRow_14 : decode cX3_spellRow 14 = .ok (.istore_n 3, 1) := by decide +kernel
theorem dX3_spellRow_15 : decode cX3_spellRow 15 = .ok (.iload_n 3, 1) := by decide +kernel
theorem dX3_spellRow_16 : decode cX3_spellRow 16 = .ok (.aload_n 0, 1) := by decide +kernel
theorem dX3_spellRow_17 : decode cX3_spellRow 17 = .ok (.getfield 35, 3) := by decide +kernel
theorem dX3_spellRow_20 : decode cX3_spellRow 20 = .ok (.if_icmp .ge 86, 3) := by decide +kernel
theorem dX3_spellRow_23 : decode cX3_spellRow 23 = .ok (.aload_n 0, 1) := by decide +kernel
theorem dX3_spellRow_24 : decode cX3_spellRow 24 = .ok (.iload_n 1, 1) := by decide +kernel
theorem dX3_spellRow_25 : decode cX3_spellRow 25 = .ok (.iload_n 3, 1) := by decide +kernel
theorem dX3_spellRow_26 : decode cX3_spellRow 26 = .ok (.invokevirtual 67, 3) := by decide +kernel
theorem dX3_spellRow_29 : decode cX3_spellRow 29 = .ok (.istore 4, 2) := by decide +kernel
theorem dX3_spellRow_31 : decode cX3_spellRow 31 = .ok (.iconst 2, 1) := by decide +kernel
theorem dX3_spellRow_32 : decode cX3_spellRow 32 = .ok (.aload_n 0, 1) := by decide +kernel
theorem dX3_spellRow_33 : decode cX3_spellRow 33 = .ok (.getfield 38, 3) := by decide +kernel
theorem dX3_spellRow_36 : decode cX3_spellRow 36 = .ok (.imul, 1) := by decide +kernel
