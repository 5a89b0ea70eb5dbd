theorem dJ9_min_7cf53_1 : decode cJ9_min_7cf53 1 = .ok (.iload_n 1, 1) := by decide +kernel
theorem dJ9_min_7cf53_2 : decode cJ9_min_7cf53 2 = .ok (.if_icmp .gt 7, 3) := by decide +kernel
theorem dJ9_min_7cf53_5 : decode cJ9_min_7cf53 5 = .ok (.iload_n 0, 1) := by decide +kernel
theorem dJ9_min_7cf53_6 : decode cJ9_min_7cf53 6 = .ok (.goto 4, 3) := by decide +kernel
theorem dJ9_min_7cf53_9 : decode cJ9_min_7cf53 9 = .ok (.iload_n 1, 1) := by decide +kernel
theorem dJ9_min_7cf53_10 : decode cJ9_min_7cf53 10 = .ok (.ireturn, 1) := by decide +kernel
theorem dL_setLast_0 : decode cL_setLast 0 = .ok (.aload_n 3, 1) := by decide +kernel
theorem dL_setLast_1 : decode cL_setLast 1 = .ok (.iconst 0, 1) := by decide +kernel
theorem dL_setLast_2 : decode cL_setLast 2 = .ok (.aload_n 0, 1) := by decide +kernel
theorem dL_setLast_3 : decode cL_setLast 3 = .ok (.iload_n 1, 1) := by decide +kernel
theorem dL_setLast_4 : decode cL_setLast 4 = .ok (.iload_n 2, 1) := by decide +kernel
theorem dL_setLast_5 : decode cL_setLast 5 = .ok (.invokevirtual 7, 3) := by decide +kernel
theorem dL_setLast_8 : decode cL_setLast 8 = .ok (.i2l, 1) := by decide +kernel
theorem dL_setLast_9 : decode cL_setLast 9 = .ok (.lastore, 1) := by decide +kernel
theorem dL_setLast_10 : decode cL_setLast 10 = .ok (.goto 15, 3) := by decide +kernel
theorem dL_setLast_13 : decode cL_setLast 13 = .ok (.astore 4, 2) := by decide +kernel
theorem dL_setLast_15 : decode cL_setLast 15 = .ok (.iconst 1, 1) := by decide +kernel
theorem dL_setLast_16 : decode cL_setLast 16 = .ok (.ireturn, 1) := by decide +kernel
theorem dL_setLast_17 : decode cL_setLast 17 = .ok (.astore 4, 2) := by decide +kernel
theorem dL_setLast_19 : decode cL_setLast 19 = .ok (.iconst 2, 1) := by decide +kernel
theorem dL_setLast_20 : decode cL_setLast 20 = .ok (.ireturn, 1) := by decide +kernel
theorem dL_setLast_21 : decode cL_setLast 21 = .ok (.astore 4, 2) := by decide +kernel
theorem dL_setLast_23 : decode cL_setLast 23 = .ok (.iconst 3, 1) := by decide +kernel
theorem dL_setLast_24 : decode cL_setLast 24 = .ok (.ireturn, 1) := by decide +kernel
theorem dL_setLast_25 : decode cL_setLast 25 = .ok (.iconst 0, 1) := by decide +kernel
theorem dL_setLast_26 : decode cL_setLast 26 = .ok (.ireturn, 1) := by decide +kernel
theorem dL_converter_0 : decode cL_converter 0 = .ok (.aload 5, 2) := by decide +kernel
theorem dL_converter_2 : decode cL_converter 2 = .ok (.iconst 0, 1) := by decide +kernel
theorem dL_converter_3 : decode cL_converter 3 = .ok (.aload_n 0, 1) := by decide +kernel
theorem dL_converter_4 : decode cL_converter 4 = .ok (.iload_n 1, 1) := by decide +kernel
theorem dL_converter_5 : decode cL_converter 5 = .ok (.iload_n 2, 1) := by decide +kernel
theorem dL_converter_6 : decode cL_converter 6 = .ok (.iload_n 3, 1) := by decide +kernel
theorem dL_converter_7 : decode cL_converter 7 = .ok (.iload 4, 2) := by decide +kernel
theorem dL_converter_9 : decode cL_converter 9 = .ok (.invokevirtual 19, 3) := by decide +kernel
theorem dL_converter_12 : decode cL_converter 12 = .ok (.i2l, 1) := by decide +kernel
theorem dL_converter_13 : decode cL_converter 13 = .ok (.lastore, 1) := by decide +kernel
theorem dL_converter_14 : decode cL_converter 14 = .ok (.goto 15, 3) := by decide +kernel
theorem dL_converter_17 : decode cL_converter 17 = .ok (.astore 6, 2) := by decide +kernel
theorem dL_converter_19 : decode cL_converter 19 = .ok (.iconst 1, 1) := by decide +kernel
theorem dL_converter_20 : decode cL_converter 20 = .ok (.ireturn, 1) := by decide +kernel
theorem dL_converter_21 : decode cL_converter 21 = .ok (.astore 6, 2) := by decide +kernel
theorem dL_converter_23 : decode cL_converter 23 = .ok (.iconst 2, 1) := by decide +kernel
theorem dL_converter_24 : decode cL_converter 24 = .ok (.ireturn, 1) := by decide +kernel
theorem dL_converter_25 : decode cL_converter 25 = .ok (.astore 6, 2) := by decide +kernel
theorem dL_converter_27 : decode cL_converter 27 = .ok (.iconst 3, 1) := by decide +kernel
theorem dL_converter_28 : decode cL_converter 28 = .ok (.ireturn, 1) := by decide +kernel
theorem dL_converter_29 : decode cL_converter 29 = .ok (.iconst 0, 1) := by decide +kernel
theorem dL_converter_30 : decode cL_converter 30 = .ok (.ireturn, 1) := by decide +kernel
theorem dL_withdraw_0 : decode cL_withdraw 0 = .ok (.aload_n 2, 1) := by decide +kernel
theorem dL_withdraw_1 : decode cL_withdraw 1 = .ok (.iconst 0, 1) := by decide +kernel
theorem dL_withdraw_2 : decode cL_withdraw 2 = .ok (.aload_n 0, 1) := by decide +kernel
theorem dL_withdraw_3 : decode cL_withdraw 3 = .ok (.iload_n 1, 1) := by decide +kernel
theorem dL_withdraw_4 : decode cL_withdraw 4 = .ok (.invokevirtual 23, 3) := by decide +kernel
theorem dL_withdraw_7 : decode cL_withdraw 7 = .ok (.i2l, 1) := by decide +kernel
theorem dL_withdraw_8 : decode cL_withdraw 8 = .ok (.lastore, 1) := by decide +kernel
theorem dL_withdraw_9 : decode cL_withdraw 9 = .ok (.goto 9, 3) := by decide +kernel
theorem dL_withdraw_12 : decode cL_withdraw 12 = .ok (.astore_n 3, 1) := by decide +kernel
theorem dL_withdraw_13 : decode cL_withdraw 13 = .ok (.iconst 1, 1) := by decide +kernel
theorem dL_withdraw_14 : decode cL_withdraw 14 = .ok (.ireturn, 1) := by decide +kernel
theorem dL_withdraw_15 : decode cL_withdraw 15 = .ok (.astore_n 3, 1) := by decide +kernel
theorem dL_withdraw_16 : decode cL_withdraw 16 = .ok (.iconst 2, 1) := by decide +kernel
theorem dL_withdraw_17 : decode cL_withdraw 17 = .ok (.ireturn, 1) := by decide +kernel
theorem dL_withdraw_18 : decode cL_withdraw 18 = .ok (.iconst 0, 1) := by decide +kernel
theorem dL_withdraw_19 : decode cL_withdraw 19 = .ok (.ireturn, 1) := by decide +kernel
theorem dL_law_0 : decode cL_law 0 = .ok (.aload_n 0, 1) := by decide +kernel
theorem dL_law_1 : decode cL_law 1 = .ok (.iload_n 1, 1) := by decide +kernel
theorem dL_law_2 : decode cL_law 2 = .ok (.iload_n 2, 1) := by decide +kernel
theorem dL_law_3 : decode cL_law 3 = .ok (.iload_n 3, 1) := by decide +kernel
theorem dL_law_4 : decode cL_law 4 = .ok (.iload 4, 2) := by decide +kernel
theorem dL_law_6 : decode cL_law 6 = .ok (.invokevirtual 27, 3) := by decide +kernel
theorem dL_law_9 : decode cL_law 9 = .ok (.goto 11, 3) := by decide +kernel
theorem dL_law_12 : decode cL_law 12 = .ok (.astore 5, 2) := by decide +kernel
theorem dL_law_14 : decode cL_law 14 = .ok (.iconst 1, 1) := by decide +kernel
theorem dL_law_15 : decode cL_law 15 = .ok (.ireturn, 1) := by decide +kernel
theorem dL_law_16 : decode cL_law 16 = .ok (.astore 5, 2) := by decide +kernel
theorem dL_law_18 : decode cL_law 18 = .ok (.iconst 2, 1) := by decide +kernel
theorem dL_law_19 : decode cL_law 19 = .ok (.ireturn, 1) := by decide +kernel
theorem dL_law_20 : decode cL_law 20 = .ok (.iconst 0, 1) := by decide +kernel
theorem dL_law_21 : decode cL_law 21 = .ok (.ireturn, 1) := by decide +kernel
theorem dL_quality_0 : decode cL_quality 0 = .ok (.aload_n 3, 1) := by decide +kernel
theorem dL_quality_1 : decode cL_quality 1 = .ok (.iconst 0, 1) := by decide +kernel
theorem dL_quality_2 : decode cL_quality 2 = .ok (.aload_n 0, 1) := by decide +kernel
theorem dL_quality_3 : decode cL_quality 3 = .ok (.iload_n 1, 1) := by decide +kernel
theorem dL_quality_4 : decode cL_quality 4 = .ok (.iload_n 2, 1) := by decide +kernel
theorem dL_quality_5 : decode cL_quality 5 = .ok (.invokevirtual 31, 3) := by decide +kernel
theorem dL_quality_8 : decode cL_quality 8 = .ok (.i2l, 1) := by decide +kernel
theorem dL_quality_9 : decode cL_quality 9 = .ok (.lastore, 1) := by decide +kernel
theorem dL_quality_10 : decode cL_quality 10 = .ok (.goto 7, 3) := by decide +kernel
theorem dL_quality_13 : decode cL_quality 13 = .ok (.astore 4, 2) := by decide +kernel
theorem dL_quality_15 : decode cL_quality 15 = .ok (.iconst 1, 1) := by decide +kernel
theorem dL_quality_16 : decode cL_quality 16 = .ok (.ireturn, 1) := by decide +kernel
theorem dL_quality_17 : decode cL_quality 17 = .ok (.iconst 0, 1) := by decide +kernel
theorem dL_quality_18 : decode cL_quality 18 = .ok (.ireturn, 1) := by decide +kernel
theorem dL_qualityByAll_0 : decode cL_qualityByAll 0 = .ok (.aload_n 3, 1) := by decide +kernel
theorem dL_qualityByAll_1 : decode cL_qualityByAll 1 = .ok (.iconst 0, 1) := by decide +kernel
theorem dL_qualityByAll_2 : decode cL_qualityByAll 2 = .ok (.aload_n 0, 1) := by decide +kernel
theorem dL_qualityByAll_3 : decode cL_qualityByAll 3 = .ok (.iload_n 1, 1) := by decide +kernel
theorem dL_qualityByAll_4 : decode cL_qualityByAll 4 = .ok (.iload_n 2, 1) := by decide +kernel
theorem dL_qualityByAll_5 : decode cL_qualityByAll 5 = .ok (.invokevirtual 34, 3) := by decide +kernel
theorem dL_qualityByAll_8 : decode cL_qualityByAll 8 = .ok (.i2l, 1) := by decide +kernel
theorem dL_qualityByAll_9 : decode cL_qualityByAll 9 = .ok (.lastore, 1) := by decide +kernel
theorem dL_qualityByAll_10 : decode cL_qualityByAll 10 = .ok (.goto 7, 3) := by decide +kernel
theorem dL_qualityByAll_13 : decode cL_qualityByAll 13 = .ok (.astore 4, 2) := by decide +kernel
theorem dL_qualityByAll_15 : decode cL_qualityByAll 15 = .ok (.iconst 1, 1) := by decide +kernel
theorem dL_qualityByAll_16 : decode cL_qualityByAll 16 = .ok (.ireturn, 1) := by decide +kernel
theorem dL_qualityByAll_17 : decode cL_qualityByAll 17 = .ok (.iconst 0, 1) := by decide +kernel
theorem dL_qualityByAll_18 : decode cL_qualityByAll 18 = .ok (.ireturn, 1) := by decide +kernel
theorem dL_cost_0 : decode cL_cost 0 = .ok (.aload_n 3, 1) := by decide +kernel
theorem dL_cost_1 : decode cL_cost 1 = .ok (.iconst 0, 1) := by decide +kernel
theorem dL_cost_2 : decode cL_cost 2 = .ok (.aload_n 0, 1) := by decide +kernel
theorem dL_cost_3 : decode cL_cost 3 = .ok (.iload_n 1, 1) := by decide +kernel
theorem dL_cost_4 : decode cL_cost 4 = .ok (.iload_n 2, 1) := by decide +kernel
theorem dL_cost_5 : decode cL_cost 5 = .ok (.invokevirtual 37, 3) := by decide +kernel
theorem dL_cost_8 : decode cL_cost 8 = .ok (.i2l, 1) := by decide +kernel
theorem dL_cost_9 : decode cL_cost 9 = .ok (.lastore, 1) := by decide +kernel
theorem dL_cost_10 : decode cL_cost 10 = .ok (.goto 7, 3) := by decide +kernel
theorem dL_cost_13 : decode cL_cost 13 = .ok (.astore 4, 2) := by decide +kernel
theorem dL_cost_15 : decode cL_cost 15 = .ok (.iconst 1, 1) := by decide +kernel
theorem dL_cost_16 : decode cL_cost 16 = .ok (.ireturn, 1) := by decide +kernel
theorem dL_cost_17 : decode cL_cost 17 = .ok (.iconst 0, 1) := by decide +kernel
theorem dL_cost_18 : decode cL_cost 18 = .ok (.ireturn, 1) := by decide +kernel
theorem dL_stepAt_0 : decode cL_stepAt 0 = .ok (.aload 4, 2) := by decide +kernel
theorem dL_stepAt_2 : decode cL_stepAt 2 = .ok (.iconst 0, 1) := by decide +kernel
theorem dL_stepAt_3 : decode cL_stepAt 3 = .ok (.aload_n 0, 1) := by decide +kernel
theorem dL_stepAt_4 : decode cL_stepAt 4 = .ok (.iload_n 1, 1) := by decide +kernel
theorem dL_stepAt_5 : decode cL_stepAt 5 = .ok (.iload_n 2, 1) := by decide +kernel
theorem dL_stepAt_6 : decode cL_stepAt 6 = .ok (.iload_n 3, 1) := by decide +kernel
theorem dL_stepAt_7 : decode cL_stepAt 7 = .ok (.invokevirtual 40, 3) := by decide +kernel
theorem dL_stepAt_10 : decode cL_stepAt 10 = .ok (.i2l, 1) := by decide +kernel
theorem dL_stepAt_11 : decode cL_stepAt 11 = .ok (.lastore, 1) := by decide +kernel
theorem dL_stepAt_12 : decode cL_stepAt 12 = .ok (.goto 7, 3) := by decide +kernel
theorem dL_stepAt_15 : decode cL_stepAt 15 = .ok (.astore 5, 2) := by decide +kernel
theorem dL_stepAt_17 : decode cL_stepAt 17 = .ok (.iconst 1, 1) := by decide +kernel
theorem dL_stepAt_18 : decode cL_stepAt 18 = .ok (.ireturn, 1) := by decide +kernel
theorem dL_stepAt_19 : decode cL_stepAt 19 = .ok (.iconst 0, 1) := by decide +kernel
theorem dL_stepAt_20 : decode cL_stepAt 20 = .ok (.ireturn, 1) := by decide +kernel
theorem dL_file_0 : decode cL_file 0 = .ok (.aload 4, 2) := by decide +kernel
theorem dL_file_2 : decode cL_file 2 = .ok (.iconst 0, 1) := by decide +kernel
theorem dL_file_3 : decode cL_file 3 = .ok (.aload_n 0, 1) := by decide +kernel
theorem dL_file_4 : decode cL_file 4 = .ok (.iload_n 1, 1) := by decide +kernel
theorem dL_file_5 : decode cL_file 5 = .ok (.iload_n 2, 1) := by decide +kernel
theorem dL_file_6 : decode cL_file 6 = .ok (.iload_n 3, 1) := by decide +kernel
theorem dL_file_7 : decode cL_file 7 = .ok (.invokevirtual 44, 3) := by decide +kernel
theorem dL_file_10 : decode cL_file 10 = .ok (.i2l, 1) := by decide +kernel
theorem dL_file_11 : decode cL_file 11 = .ok (.lastore, 1) := by decide +kernel
theorem dL_file_12 : decode cL_file 12 = .ok (.goto 15, 3) := by decide +kernel
theorem dL_file_15 : decode cL_file 15 = .ok (.astore 5, 2) := by decide +kernel
theorem dL_file_17 : decode cL_file 17 = .ok (.iconst 1, 1) := by decide +kernel
theorem dL_file_18 : decode cL_file 18 = .ok (.ireturn, 1) := by decide +kernel
theorem dL_file_19 : decode cL_file 19 = .ok (.astore 5, 2) := by decide +kernel
theorem dL_file_21 : decode cL_file 21 = .ok (.iconst 2, 1) := by decide +kernel
theorem dL_file_22 : decode cL_file 22 = .ok (.ireturn, 1) := by decide +kernel
theorem dL_file_23 : decode cL_file 23 = .ok (.astore 5, 2) := by decide +kernel
theorem dL_file_25 : decode cL_file 25 = .ok (.iconst 3, 1) := by decide +kernel
theorem dL_file_26 : decode cL_file 26 = .ok (.ireturn, 1) := by decide +kernel
theorem dL_file_27 : decode cL_file 27 = .ok (.iconst 0, 1) := by decide +kernel
theorem dL_file_28 : decode cL_file 28 = .ok (.ireturn, 1) := by decide +kernel
theorem dL_hold_0 : decode cL_hold 0 = .ok (.aload_n 3, 1) := by decide +kernel
theorem dL_hold_1 : decode cL_hold 1 = .ok (.iconst 0, 1) := by decide +kernel
theorem dL_hold_2 : decode cL_hold 2 = .ok (.aload_n 0, 1) := by decide +kernel
theorem dL_hold_3 : decode cL_hold 3 = .ok (.iload_n 1, 1) := by decide +kernel
theorem dL_hold_4 : decode cL_hold 4 = .ok (.iload_n 2, 1) := by decide +kernel
theorem dL_hold_5 : decode cL_hold 5 = .ok (.invokevirtual 47, 3) := by decide +kernel
theorem dL_hold_8 : decode cL_hold 8 = .ok (.ifCond .eq 7, 3) := by decide +kernel
theorem dL_hold_11 : decode cL_hold 11 = .ok (.lconst 1, 1) := by decide +kernel
theorem dL_hold_12 : decode cL_hold 12 = .ok (.goto 4, 3) := by decide +kernel
theorem dL_hold_15 : decode cL_hold 15 = .ok (.lconst 0, 1) := by decide +kernel
theorem dL_hold_16 : decode cL_hold 16 = .ok (.lastore, 1) := by decide +kernel
theorem dL_hold_17 : decode cL_hold 17 = .ok (.goto 11, 3) := by decide +kernel
theorem dL_hold_20 : decode cL_hold 20 = .ok (.astore 4, 2) := by decide +kernel
theorem dL_hold_22 : decode cL_hold 22 = .ok (.iconst 1, 1) := by decide +kernel
theorem dL_hold_23 : decode cL_hold 23 = .ok (.ireturn, 1) := by decide +kernel
theorem dL_hold_24 : decode cL_hold 24 = .ok (.astore 4, 2) := by decide +kernel
theorem dL_hold_26 : decode cL_hold 26 = .ok (.iconst 2, 1) := by decide +kernel
theorem dL_hold_27 : decode cL_hold 27 = .ok (.ireturn, 1) := by decide +kernel
theorem dL_hold_28 : decode cL_hold 28 = .ok (.iconst 0, 1) := by decide +kernel
theorem dL_hold_29 : decode cL_hold 29 = .ok (.ireturn, 1) := by decide +kernel
theorem dL_read_0 : decode cL_read 0 = .ok (.aload_n 2, 1) := by decide +kernel
theorem dL_read_1 : decode cL_read 1 = .ok (.iconst 0, 1) := by decide +kernel
theorem dL_read_2 : decode cL_read 2 = .ok (.aload_n 0, 1) := by decide +kernel
theorem dL_read_3 : decode cL_read 3 = .ok (.iload_n 1, 1) := by decide +kernel
theorem dL_read_4 : decode cL_read 4 = .ok (.invokevirtual 51, 3) := by decide +kernel
theorem dL_read_7 : decode cL_read 7 = .ok (.i2l, 1) := by decide +kernel
theorem dL_read_8 : decode cL_read 8 = .ok (.lastore, 1) := by decide +kernel
theorem dL_read_9 : decode cL_read 9 = .ok (.goto 9, 3) := by decide +kernel
theorem dL_read_12 : decode cL_read 12 = .ok (.astore_n 3, 1) := by decide +kernel
theorem dL_read_13 : decode cL_read 13 = .ok (.iconst 1, 1) := by decide +kernel
theorem dL_read_14 : decode cL_read 14 = .ok (.ireturn, 1) := by decide +kernel
theorem dL_read_15 : decode cL_read 15 = .ok (.astore_n 3, 1) := by decide +kernel
theorem dL_read_16 : decode cL_read 16 = .ok (.iconst 2, 1) := by decide +kernel
theorem dL_read_17 : decode cL_read 17 = .ok (.ireturn, 1) := by decide +kernel
theorem dL_read_18 : decode cL_read 18 = .ok (.iconst 0, 1) := by decide +kernel
theorem dL_read_19 : decode cL_read 19 = .ok (.ireturn, 1) := by decide +kernel
theorem dL_move_0 : decode cL_move 0 = .ok (.aload_n 3, 1) := by decide +kernel
theorem dL_move_1 : decode cL_move 1 = .ok (.iconst 0, 1) := by decide +kernel
theorem dL_move_2 : decode cL_move 2 = .ok (.aload_n 0, 1) := by decide +kernel
theorem dL_move_3 : decode cL_move 3 = .ok (.iload_n 1, 1) := by decide +kernel
theorem dL_move_4 : decode cL_move 4 = .ok (.iload_n 2, 1) := by decide +kernel
theorem dL_move_5 : decode cL_move 5 = .ok (.invokevirtual 54, 3) := by decide +kernel
theorem dL_move_8 : decode cL_move 8 = .ok (.i2l, 1) := by decide +kernel
theorem dL_move_9 : decode cL_move 9 = .ok (.lastore, 1) := by decide +kernel
theorem dL_move_10 : decode cL_move 10 = .ok (.goto 15, 3) := by decide +kernel
theorem dL_move_13 : decode cL_move 13 = .ok (.astore 4, 2) := by decide +kernel
theorem dL_move_15 : decode cL_move 15 = .ok (.iconst 1, 1) := by decide +kernel
theorem dL_move_16 : decode cL_move 16 = .ok (.ireturn, 1) := by decide +kernel
theorem dL_move_17 : decode cL_move 17 = .ok (.astore 4, 2) := by decide +kernel
theorem dL_move_19 : decode cL_move 19 = .ok (.iconst 2, 1) := by decide +kernel
theorem dL_move_20 : decode cL_move 20 = .ok (.ireturn, 1) := by decide +kernel
theorem dL_move_21 : decode cL_move 21 = .ok (.astore 4, 2) := by decide +kernel
theorem dL_move_23 : decode cL_move 23 = .ok (.iconst 3, 1) := by decide +kernel
theorem dL_move_24 : decode cL_move 24 = .ok (.ireturn, 1) := by decide +kernel
theorem dL_move_25 : decode cL_move 25 = .ok (.iconst 0, 1) := by decide +kernel
theorem dL_move_26 : decode cL_move 26 = .ok (.ireturn, 1) := by decide +kernel
theorem dL_haven_0 : decode cL_haven 0 = .ok (.aload_n 2, 1) := by decide +kernel
theorem dL_haven_1 : decode cL_haven 1 = .ok (.iconst 0, 1) := by decide +kernel
theorem dL_haven_2 : decode cL_haven 2 = .ok (.aload_n 0, 1) := by decide +kernel
theorem dL_haven_3 : decode cL_haven 3 = .ok (.iload_n 1, 1) := by decide +kernel
theorem dL_haven_4 : decode cL_haven 4 = .ok (.invokevirtual 57, 3) := by decide +kernel
theorem dL_haven_7 : decode cL_haven 7 = .ok (.i2l, 1) := by decide +kernel
theorem dL_haven_8 : decode cL_haven 8 = .ok (.lastore, 1) := by decide +kernel
theorem dL_haven_9 : decode cL_haven 9 = .ok (.goto 6, 3) := by decide +kernel
theorem dL_haven_12 : decode cL_haven 12 = .ok (.astore_n 3, 1) := by decide +kernel
theorem dL_haven_13 : decode cL_haven 13 = .ok (.iconst 1, 1) := by decide +kernel
theorem dL_haven_14 : decode cL_haven 14 = .ok (.ireturn, 1) := by decide +kernel
theorem dL_haven_15 : decode cL_haven 15 = .ok (.iconst 0, 1) := by decide +kernel
theorem dL_haven_16 : decode cL_haven 16 = .ok (.ireturn, 1) := by decide +kernel
theorem dL_isSafe_0 : decode cL_isSafe 0 = .ok (.aload_n 2, 1) := by decide +kernel
theorem dL_isSafe_1 : decode cL_isSafe 1 = .ok (.iconst 0, 1) := by decide +kernel
theorem dL_isSafe_2 : decode cL_isSafe 2 = .ok (.aload_n 0, 1) := by decide +kernel
theorem dL_isSafe_3 : decode cL_isSafe 3 = .ok (.iload_n 1, 1) := by decide +kernel
theorem dL_isSafe_4 : decode cL_isSafe 4 = .ok (.invokevirtual 60, 3) := by decide +kernel
theorem dL_isSafe_7 : decode cL_isSafe 7 = .ok (.ifCond .eq 7, 3) := by decide +kernel
theorem dL_isSafe_10 : decode cL_isSafe 10 = .ok (.lconst 1, 1) := by decide +kernel
theorem dL_isSafe_11 : decode cL_isSafe 11 = .ok (.goto 4, 3) := by decide +kernel
theorem dL_isSafe_14 : decode cL_isSafe 14 = .ok (.lconst 0, 1) := by decide +kernel
theorem dL_isSafe_15 : decode cL_isSafe 15 = .ok (.lastore, 1) := by decide +kernel
theorem dL_isSafe_16 : decode cL_isSafe 16 = .ok (.goto 6, 3) := by decide +kernel
theorem dL_isSafe_19 : decode cL_isSafe 19 = .ok (.astore_n 3, 1) := by decide +kernel
theorem dL_isSafe_20 : decode cL_isSafe 20 = .ok (.iconst 1, 1) := by decide +kernel
theorem dL_isSafe_21 : decode cL_isSafe 21 = .ok (.ireturn, 1) := by decide +kernel
theorem dL_isSafe_22 : decode cL_isSafe 22 = .ok (.iconst 0, 1) := by decide +kernel
theorem dL_isSafe_23 : decode cL_isSafe 23 = .ok (.ireturn, 1) := by decide +kernel
theorem dL_stateOf_0 : decode cL_stateOf 0 = .ok (.aload_n 2, 1) := by decide +kernel
theorem dL_stateOf_1 : decode cL_stateOf 1 = .ok (.iconst 0, 1) := by decide +kernel
theorem dL_stateOf_2 : decode cL_stateOf 2 = .ok (.aload_n 0, 1) := by decide +kernel
theorem dL_stateOf_3 : decode cL_stateOf 3 = .ok (.iload_n 1, 1) := by decide +kernel
theorem dL_stateOf_4 : decode cL_stateOf 4 = .ok (.invokevirtual 64, 3) := by decide +kernel
theorem dL_stateOf_7 : decode cL_stateOf 7 = .ok (.i2l, 1) := by decide +kernel
theorem dL_stateOf_8 : decode cL_stateOf 8 = .ok (.lastore, 1) := by decide +kernel
theorem dL_stateOf_9 : decode cL_stateOf 9 = .ok (.goto 6, 3) := by decide +kernel
theorem dL_stateOf_12 : decode cL_stateOf 12 = .ok (.astore_n 3, 1) := by decide +kernel
theorem dL_stateOf_13 : decode cL_stateOf 13 = .ok (.iconst 1, 1) := by decide +kernel
theorem dL_stateOf_14 : decode cL_stateOf 14 = .ok (.ireturn, 1) := by decide +kernel
theorem dL_stateOf_15 : decode cL_stateOf 15 = .ok (.iconst 0, 1) := by decide +kernel
theorem dL_stateOf_16 : decode cL_stateOf 16 = .ok (.ireturn, 1) := by decide +kernel
theorem dL_formatOf_0 : decode cL_formatOf 0 = .ok (.aload_n 2, 1) := by decide +kernel
theorem dL_formatOf_1 : decode cL_formatOf 1 = .ok (.iconst 0, 1) := by decide +kernel
theorem dL_formatOf_2 : decode cL_formatOf 2 = .ok (.aload_n 0, 1) := by decide +kernel
theorem dL_formatOf_3 : decode cL_formatOf 3 = .ok (.iload_n 1, 1) := by decide +kernel
theorem dL_formatOf_4 : decode cL_formatOf 4 = .ok (.invokevirtual 67, 3) := by decide +kernel
theorem dL_formatOf_7 : decode cL_formatOf 7 = .ok (.i2l, 1) := by decide +kernel
theorem dL_formatOf_8 : decode cL_formatOf 8 = .ok (.lastore, 1) := by decide +kernel
theorem dL_formatOf_9 : decode cL_formatOf 9 = .ok (.goto 6, 3) := by decide +kernel
theorem dL_formatOf_12 : decode cL_formatOf 12 = .ok (.astore_n 3, 1) := by decide +kernel
theorem dL_formatOf_13 : decode cL_formatOf 13 = .ok (.iconst 1, 1) := by decide +kernel
theorem dL_formatOf_14 : decode cL_formatOf 14 = .ok (.ireturn, 1) := by decide +kernel
theorem dL_formatOf_15 : decode cL_formatOf 15 = .ok (.iconst 0, 1) := by decide +kernel
theorem dL_formatOf_16 : decode cL_formatOf 16 = .ok (.ireturn, 1) := by decide +kernel
theorem dL_qualityOf_0 : decode cL_qualityOf 0 = .ok (.aload_n 2, 1) := by decide +kernel
theorem dL_qualityOf_1 : decode cL_qualityOf 1 = .ok (.iconst 0, 1) := by decide +kernel
theorem dL_qualityOf_2 : decode cL_qualityOf 2 = .ok (.aload_n 0, 1) := by decide +kernel
theorem dL_qualityOf_3 : decode cL_qualityOf 3 = .ok (.iload_n 1, 1) := by decide +kernel
theorem dL_qualityOf_4 : decode cL_qualityOf 4 = .ok (.invokevirtual 70, 3) := by decide +kernel
theorem dL_qualityOf_7 : decode cL_qualityOf 7 = .ok (.i2l, 1) := by decide +kernel
theorem dL_qualityOf_8 : decode cL_qualityOf 8 = .ok (.lastore, 1) := by decide +kernel
theorem dL_qualityOf_9 : decode cL_qualityOf 9 = .ok (.goto 6, 3) := by decide +kernel
theorem dL_qualityOf_12 : decode cL_qualityOf 12 = .ok (.astore_n 3, 1) := by decide +kernel
theorem dL_qualityOf_13 : decode cL_qualityOf 13 = .ok (.iconst 1, 1) := by decide +kernel
theorem dL_qualityOf_14 : decode cL_qualityOf 14 = .ok (.ireturn, 1) := by decide +kernel
theorem dL_qualityOf_15 : decode cL_qualityOf 15 = .ok (.iconst 0, 1) := by decide +kernel
theorem dL_qualityOf_16 : decode cL_qualityOf 16 = .ok (.ireturn, 1) := by decide +kernel
theorem dL_endOf_0 : decode cL_endOf 0 = .ok (.aload_n 2, 1) := by decide +kernel
theorem dL_endOf_1 : decode cL_endOf 1 = .ok (.iconst 0, 1) := by decide +kernel
theorem dL_endOf_2 : decode cL_endOf 2 = .ok (.aload_n 0, 1) := by decide +kernel
theorem dL_endOf_3 : decode cL_endOf 3 = .ok (.iload_n 1, 1) := by decide +kernel
theorem dL_endOf_4 : decode cL_endOf 4 = .ok (.invokevirtual 73, 3) := by decide +kernel
theorem dL_endOf_7 : decode cL_endOf 7 = .ok (.i2l, 1) := by decide +kernel
theorem dL_endOf_8 : decode cL_endOf 8 = .ok (.lastore, 1) := by decide +kernel
theorem dL_endOf_9 : decode cL_endOf 9 = .ok (.goto 6, 3) := by decide +kernel
theorem dL_endOf_12 : decode cL_endOf 12 = .ok (.astore_n 3, 1) := by decide +kernel
theorem dL_endOf_13 : decode cL_endOf 13 = .ok (.iconst 1, 1) := by decide +kernel
theorem dL_endOf_14 : decode cL_endOf 14 = .ok (.ireturn, 1) := by decide +kernel
theorem dL_endOf_15 : decode cL_endOf 15 = .ok (.iconst 0, 1) := by decide +kernel
theorem dL_endOf_16 : decode cL_endOf 16 = .ok (.ireturn, 1) := by decide +kernel
theorem dL_setBudget_0 : decode cL_setBudget 0 = .ok (.aload_n 2, 1) := by decide +kernel
theorem dL_setBudget_1 : decode cL_setBudget 1 = .ok (.iconst 0, 1) := by decide +kernel
theorem dL_setBudget_2 : decode cL_setBudget 2 = .ok (.aload_n 0, 1) := by decide +kernel
theorem dL_setBudget_3 : decode cL_setBudget 3 = .ok (.iload_n 1, 1) := by decide +kernel
theorem dL_setBudget_4 : decode cL_setBudget 4 = .ok (.invokevirtual 76, 3) := by decide +kernel
theorem dL_setBudget_7 : decode cL_setBudget 7 = .ok (.i2l, 1) := by decide +kernel
theorem dL_setBudget_8 : decode cL_setBudget 8 = .ok (.lastore, 1) := by decide +kernel
theorem dL_setBudget_9 : decode cL_setBudget 9 = .ok (.goto 6, 3) := by decide +kernel
theorem dL_setBudget_12 : decode cL_setBudget 12 = .ok (.astore_n 3, 1) := by decide +kernel
theorem dL_setBudget_13 : decode cL_setBudget 13 = .ok (.iconst 1, 1) := by decide +kernel
theorem dL_setBudget_14 : decode cL_setBudget 14 = .ok (.ireturn, 1) := by decide +kernel
theorem dL_setBudget_15 : decode cL_setBudget 15 = .ok (.iconst 0, 1) := by decide +kernel
theorem dL_setBudget_16 : decode cL_setBudget 16 = .ok (.ireturn, 1) := by decide +kernel
theorem dL_begin_0 : decode cL_begin 0 = .ok (.aload_n 1, 1) := by decide +kernel
theorem dL_begin_1 : decode cL_begin 1 = .ok (.iconst 0, 1) := by decide +kernel
theorem dL_begin_2 : decode cL_begin 2 = .ok (.aload_n 0, 1) := by decide +kernel
theorem dL_begin_3 : decode cL_begin 3 = .ok (.invokevirtual 79, 3) := by decide +kernel
theorem dL_begin_6 : decode cL_begin 6 = .ok (.i2l, 1) := by decide +kernel
theorem dL_begin_7 : decode cL_begin 7 = .ok (.lastore, 1) := by decide +kernel
theorem dL_begin_8 : decode cL_begin 8 = .ok (.goto 6, 3) := by decide +kernel
theorem dL_begin_11 : decode cL_begin 11 = .ok (.astore_n 2, 1) := by decide +kernel
theorem dL_begin_12 : decode cL_begin 12 = .ok (.iconst 1, 1) := by decide +kernel
theorem dL_begin_13 : decode cL_begin 13 = .ok (.ireturn, 1) := by decide +kernel
theorem dL_begin_14 : decode cL_begin 14 = .ok (.iconst 0, 1) := by decide +kernel
theorem dL_begin_15 : decode cL_begin 15 = .ok (.ireturn, 1) := by decide +kernel
theorem dL_promise_0 : decode cL_promise 0 = .ok (.aload_n 3, 1) := by decide +kernel
theorem dL_promise_1 : decode cL_promise 1 = .ok (.iconst 0, 1) := by decide +kernel
theorem dL_promise_2 : decode cL_promise 2 = .ok (.aload_n 0, 1) := by decide +kernel
theorem dL_promise_3 : decode cL_promise 3 = .ok (.iload_n 1, 1) := by decide +kernel
theorem dL_promise_4 : decode cL_promise 4 = .ok (.iload_n 2, 1) := by decide +kernel
theorem dL_promise_5 : decode cL_promise 5 = .ok (.invokevirtual 83, 3) := by decide +kernel
theorem dL_promise_8 : decode cL_promise 8 = .ok (.i2l, 1) := by decide +kernel
theorem dL_promise_9 : decode cL_promise 9 = .ok (.lastore, 1) := by decide +kernel
theorem dL_promise_10 : decode cL_promise 10 = .ok (.goto 7, 3) := by decide +kernel
theorem dL_promise_13 : decode cL_promise 13 = .ok (.astore 4, 2) := by decide +kernel
theorem dL_promise_15 : decode cL_promise 15 = .ok (.iconst 1, 1) := by decide +kernel
theorem dL_promise_16 : decode cL_promise 16 = .ok (.ireturn, 1) := by decide +kernel
theorem dL_promise_17 : decode cL_promise 17 = .ok (.iconst 0, 1) := by decide +kernel
theorem dL_promise_18 : decode cL_promise 18 = .ok (.ireturn, 1) := by decide +kernel
theorem dL_law__0 : decode cL_law_ 0 = .ok (.new 8, 3) := by decide +kernel
theorem dL_law__3 : decode cL_law_ 3 = .ok (.dup, 1) := by decide +kernel
theorem dL_law__4 : decode cL_law_ 4 = .ok (.invokespecial 86, 3) := by decide +kernel
theorem dL_law__7 : decode cL_law_ 7 = .ok (.astore_n 1, 1) := by decide +kernel
theorem dL_law__8 : decode cL_law_ 8 = .ok (.new 87, 3) := by decide +kernel
theorem dL_law__11 : decode cL_law_ 11 = .ok (.dup, 1) := by decide +kernel
theorem dL_law__12 : decode cL_law_ 12 = .ok (.invokespecial 89, 3) := by decide +kernel
theorem dL_law__15 : decode cL_law_ 15 = .ok (.astore_n 2, 1) := by decide +kernel
theorem dL_law__16 : decode cL_law_ 16 = .ok (.iconst 1, 1) := by decide +kernel
theorem dL_law__17 : decode cL_law_ 17 = .ok (.newarray .long, 2) := by decide +kernel
theorem dL_law__19 : decode cL_law_ 19 = .ok (.astore_n 3, 1) := by decide +kernel
theorem dL_law__20 : decode cL_law_ 20 = .ok (.iconst 0, 1) := by decide +kernel
theorem dL_law__21 : decode cL_law_ 21 = .ok (.istore 4, 2) := by decide +kernel
theorem dL_law__23 : decode cL_law_ 23 = .ok (.iload 4, 2) := by decide +kernel
theorem dL_law__25 : decode cL_law_ 25 = .ok (.aload_n 0, 1) := by decide +kernel
theorem dL_law__26 : decode cL_law_ 26 = .ok (.arraylength, 1) := by decide +kernel
theorem dL_law__27 : decode cL_law_ 27 = .ok (.iconst 5, 1) := by decide +kernel
theorem dL_law__28 : decode cL_law_ 28 = .ok (.isub, 1) := by decide +kernel
theorem dL_law__29 : decode cL_law_ 29 = .ok (.if_icmp .gt 1559, 3) := by decide +kernel
theorem dL_law__32 : decode cL_law_ 32 = .ok (.aload_n 0, 1) := by decide +kernel
theorem dL_law__33 : decode cL_law_ 33 = .ok (.iload 4, 2) := by decide +kernel
theorem dL_law__35 : decode cL_law_ 35 = .ok (.iaload, 1) := by decide +kernel
theorem dL_law__36 : decode cL_law_ 36 = .ok (.bipush 31, 2) := by decide +kernel
theorem dL_law__38 : decode cL_law_ 38 = .ok (.iand, 1) := by decide +kernel
theorem dL_law__39 : decode cL_law_ 39 = .ok (.tableswitch 1543 0 24 #[113, 181, 273, 329, 401, 469, 537, 605, 685, 765, 856, 912, 980, 993, 1049, 1112, 1168, 1224, 1280, 1336, 1392, 1405, 1449, 1462, 1475], 113) := by decide +kernel
theorem dL_law__152 : decode cL_law_ 152 = .ok (.aload_n 1, 1) := by decide +kernel
theorem dL_law__153 : decode cL_law_ 153 = .ok (.aload_n 0, 1) := by decide +kernel
theorem dL_law__154 : decode cL_law_ 154 = .ok (.iload 4, 2) := by decide +kernel
theorem dL_law__156 : decode cL_law_ 156 = .ok (.iconst 1, 1) := by decide +kernel
theorem dL_law__157 : decode cL_law_ 157 = .ok (.iadd, 1) := by decide +kernel
theorem dL_law__158 : decode cL_law_ 158 = .ok (.iaload, 1) := by decide +kernel
theorem dL_law__159 : decode cL_law_ 159 = .ok (.aload_n 0, 1) := by decide +kernel
theorem dL_law__160 : decode cL_law_ 160 = .ok (.iload 4, 2) := by decide +kernel
theorem dL_law__162 : decode cL_law_ 162 = .ok (.iconst 2, 1) := by decide +kernel
theorem dL_law__163 : decode cL_law_ 163 = .ok (.iadd, 1) := by decide +kernel
theorem dL_law__164 : decode cL_law_ 164 = .ok (.iaload, 1) := by decide +kernel
theorem dL_law__165 : decode cL_law_ 165 = .ok (.aload_n 3, 1) := by decide +kernel
theorem dL_law__166 : decode cL_law_ 166 = .ok (.invokestatic 90, 3) := by decide +kernel
theorem dL_law__169 : decode cL_law_ 169 = .ok (.istore 5, 2) := by decide +kernel
theorem dL_law__171 : decode cL_law_ 171 = .ok (.aload_n 2, 1) := by decide +kernel
theorem dL_law__172 : decode cL_law_ 172 = .ok (.aload_n 0, 1) := by decide +kernel
theorem dL_law__173 : decode cL_law_ 173 = .ok (.iload 4, 2) := by decide +kernel
theorem dL_law__175 : decode cL_law_ 175 = .ok (.iconst 1, 1) := by decide +kernel
theorem dL_law__176 : decode cL_law_ 176 = .ok (.iadd, 1) := by decide +kernel
theorem dL_law__177 : decode cL_law_ 177 = .ok (.iaload, 1) := by decide +kernel
theorem dL_law__178 : decode cL_law_ 178 = .ok (.aload_n 0, 1) := by decide +kernel
theorem dL_law__179 : decode cL_law_ 179 = .ok (.iload 4, 2) := by decide +kernel
theorem dL_law__181 : decode cL_law_ 181 = .ok (.iconst 2, 1) := by decide +kernel
theorem dL_law__182 : decode cL_law_ 182 = .ok (.iadd, 1) := by decide +kernel
theorem dL_law__183 : decode cL_law_ 183 = .ok (.iaload, 1) := by decide +kernel
theorem dL_law__184 : decode cL_law_ 184 = .ok (.invokevirtual 95, 3) := by decide +kernel
theorem dL_law__187 : decode cL_law_ 187 = .ok (.istore 6, 2) := by decide +kernel
theorem dL_law__189 : decode cL_law_ 189 = .ok (.aload_n 2, 1) := by decide +kernel
theorem dL_law__190 : decode cL_law_ 190 = .ok (.invokevirtual 96, 3) := by decide +kernel
theorem dL_law__193 : decode cL_law_ 193 = .ok (.iload 5, 2) := by decide +kernel
theorem dL_law__195 : decode cL_law_ 195 = .ok (.if_icmp .eq 5, 3) := by decide +kernel
theorem dL_law__198 : decode cL_law_ 198 = .ok (.iconst 0, 1) := by decide +kernel
theorem dL_law__199 : decode cL_law_ 199 = .ok (.ireturn, 1) := by decide +kernel
theorem dL_law__200 : decode cL_law_ 200 = .ok (.iload 5, 2) := by decide +kernel
theorem dL_law__202 : decode cL_law_ 202 = .ok (.ifCond .ne 15, 3) := by decide +kernel
theorem dL_law__205 : decode cL_law_ 205 = .ok (.aload_n 3, 1) := by decide +kernel
theorem dL_law__206 : decode cL_law_ 206 = .ok (.iconst 0, 1) := by decide +kernel
theorem dL_law__207 : decode cL_law_ 207 = .ok (.laload, 1) := by decide +kernel
theorem dL_law__208 : decode cL_law_ 208 = .ok (.iload 6, 2) := by decide +kernel
theorem dL_law__210 : decode cL_law_ 210 = .ok (.i2l, 1) := by decide +kernel
theorem dL_law__211 : decode cL_law_ 211 = .ok (.lcmp, 1) := by decide +kernel
theorem dL_law__212 : decode cL_law_ 212 = .ok (.ifCond .eq 5, 3) := by decide +kernel
theorem dL_law__215 : decode cL_law_ 215 = .ok (.iconst 0, 1) := by decide +kernel
theorem dL_law__216 : decode cL_law_ 216 = .ok (.ireturn, 1) := by decide +kernel
theorem dL_law__217 : decode cL_law_ 217 = .ok (.goto 1365, 3) := by decide +kernel
theorem dL_law__220 : decode cL_law_ 220 = .ok (.aload_n 1, 1) := by decide +kernel
theorem dL_law__221 : decode cL_law_ 221 = .ok (.aload_n 0, 1) := by decide +kernel
theorem dL_law__222 : decode cL_law_ 222 = .ok (.iload 4, 2) := by decide +kernel
theorem dL_law__224 : decode cL_law_ 224 = .ok (.iconst 1, 1) := by decide +kernel
theorem dL_law__225 : decode cL_law_ 225 = .ok (.iadd, 1) := by decide +kernel
theorem dL_law__226 : decode cL_law_ 226 = .ok (.iaload, 1) := by decide +kernel
theorem dL_law__227 : decode cL_law_ 227 = .ok (.aload_n 0, 1) := by decide +kernel
theorem dL_law__228 : decode cL_law_ 228 = .ok (.iload 4, 2) := by decide +kernel
theorem dL_law__230 : decode cL_law_ 230 = .ok (.iconst 2, 1) := by decide +kernel
theorem dL_law__231 : decode cL_law_ 231 = .ok (.iadd, 1) := by decide +kernel
theorem dL_law__232 : decode cL_law_ 232 = .ok (.iaload, 1) := by decide +kernel
theorem dL_law__233 : decode cL_law_ 233 = .ok (.aload_n 0, 1) := by decide +kernel
theorem dL_law__234 : decode cL_law_ 234 = .ok (.iload 4, 2) := by decide +kernel
theorem dL_law__236 : decode cL_law_ 236 = .ok (.iconst 3, 1) := by decide +kernel
theorem dL_law__237 : decode cL_law_ 237 = .ok (.iadd, 1) := by decide +kernel
theorem dL_law__238 : decode cL_law_ 238 = .ok (.iaload, 1) := by decide +kernel
theorem dL_law__239 : decode cL_law_ 239 = .ok (.aload_n 0, 1) := by decide +kernel
theorem dL_law__240 : decode cL_law_ 240 = .ok (.iload 4, 2) := by decide +kernel
theorem dL_law__242 : decode cL_law_ 242 = .ok (.iconst 4, 1) := by decide +kernel
theorem dL_law__243 : decode cL_law_ 243 = .ok (.iadd, 1) := by decide +kernel
theorem dL_law__244 : decode cL_law_ 244 = .ok (.iaload, 1) := by decide +kernel
theorem dL_law__245 : decode cL_law_ 245 = .ok (.aload_n 3, 1) := by decide +kernel
theorem dL_law__246 : decode cL_law_ 246 = .ok (.invokestatic 99, 3) := by decide +kernel
theorem dL_law__249 : decode cL_law_ 249 = .ok (.istore 5, 2) := by decide +kernel
theorem dL_law__251 : decode cL_law_ 251 = .ok (.aload_n 2, 1) := by decide +kernel
theorem dL_law__252 : decode cL_law_ 252 = .ok (.aload_n 0, 1) := by decide +kernel
theorem dL_law__253 : decode cL_law_ 253 = .ok (.iload 4, 2) := by decide +kernel
theorem dL_law__255 : decode cL_law_ 255 = .ok (.iconst 1, 1) := by decide +kernel
theorem dL_law__256 : decode cL_law_ 256 = .ok (.iadd, 1) := by decide +kernel
theorem dL_law__257 : decode cL_law_ 257 = .ok (.iaload, 1) := by decide +kernel
theorem dL_law__258 : decode cL_law_ 258 = .ok (.aload_n 0, 1) := by decide +kernel
theorem dL_law__259 : decode cL_law_ 259 = .ok (.iload 4, 2) := by decide +kernel
theorem dL_law__261 : decode cL_law_ 261 = .ok (.iconst 2, 1) := by decide +kernel
theorem dL_law__262 : decode cL_law_ 262 = .ok (.iadd, 1) := by decide +kernel
theorem dL_law__263 : decode cL_law_ 263 = .ok (.iaload, 1) := by decide +kernel
theorem dL_law__264 : decode cL_law_ 264 = .ok (.aload_n 0, 1) := by decide +kernel
theorem dL_law__265 : decode cL_law_ 265 = .ok (.iload 4, 2) := by decide +kernel
theorem dL_law__267 : decode cL_law_ 267 = .ok (.iconst 3, 1) := by decide +kernel
theorem dL_law__268 : decode cL_law_ 268 = .ok (.iadd, 1) := by decide +kernel
theorem dL_law__269 : decode cL_law_ 269 = .ok (.iaload, 1) := by decide +kernel
theorem dL_law__270 : decode cL_law_ 270 = .ok (.aload_n 0, 1) := by decide +kernel
theorem dL_law__271 : decode cL_law_ 271 = .ok (.iload 4, 2) := by decide +kernel
theorem dL_law__273 : decode cL_law_ 273 = .ok (.iconst 4, 1) := by decide +kernel
theorem dL_law__274 : decode cL_law_ 274 = .ok (.iadd, 1) := by decide +kernel
theorem dL_law__275 : decode cL_law_ 275 = .ok (.iaload, 1) := by decide +kernel
theorem dL_law__276 : decode cL_law_ 276 = .ok (.invokevirtual 102, 3) := by decide +kernel
theorem dL_law__279 : decode cL_law_ 279 = .ok (.istore 6, 2) := by decide +kernel
theorem dL_law__281 : decode cL_law_ 281 = .ok (.aload_n 2, 1) := by decide +kernel
theorem dL_law__282 : decode cL_law_ 282 = .ok (.invokevirtual 96, 3) := by decide +kernel
theorem dL_law__285 : decode cL_law_ 285 = .ok (.iload 5, 2) := by decide +kernel
theorem dL_law__287 : decode cL_law_ 287 = .ok (.if_icmp .eq 5, 3) := by decide +kernel
theorem dL_law__290 : decode cL_law_ 290 = .ok (.iconst 0, 1) := by decide +kernel
theorem dL_law__291 : decode cL_law_ 291 = .ok (.ireturn, 1) := by decide +kernel
theorem dL_law__292 : decode cL_law_ 292 = .ok (.iload 5, 2) := by decide +kernel
theorem dL_law__294 : decode cL_law_ 294 = .ok (.ifCond .ne 15, 3) := by decide +kernel
theorem dL_law__297 : decode cL_law_ 297 = .ok (.aload_n 3, 1) := by decide +kernel
theorem dL_law__298 : decode cL_law_ 298 = .ok (.iconst 0, 1) := by decide +kernel
theorem dL_law__299 : decode cL_law_ 299 = .ok (.laload, 1) := by decide +kernel
theorem dL_law__300 : decode cL_law_ 300 = .ok (.iload 6, 2) := by decide +kernel
theorem dL_law__302 : decode cL_law_ 302 = .ok (.i2l, 1) := by decide +kernel
theorem dL_law__303 : decode cL_law_ 303 = .ok (.lcmp, 1) := by decide +kernel
theorem dL_law__304 : decode cL_law_ 304 = .ok (.ifCond .eq 5, 3) := by decide +kernel
theorem dL_law__307 : decode cL_law_ 307 = .ok (.iconst 0, 1) := by decide +kernel
theorem dL_law__308 : decode cL_law_ 308 = .ok (.ireturn, 1) := by decide +kernel
theorem dL_law__309 : decode cL_law_ 309 = .ok (.goto 1273, 3) := by decide +kernel
theorem dL_law__312 : decode cL_law_ 312 = .ok (.aload_n 1, 1) := by decide +kernel
theorem dL_law__313 : decode cL_law_ 313 = .ok (.aload_n 0, 1) := by decide +kernel
theorem dL_law__314 : decode cL_law_ 314 = .ok (.iload 4, 2) := by decide +kernel
theorem dL_law__316 : decode cL_law_ 316 = .ok (.iconst 1, 1) := by decide +kernel
theorem dL_law__317 : decode cL_law_ 317 = .ok (.iadd, 1) := by decide +kernel
theorem dL_law__318 : decode cL_law_ 318 = .ok (.iaload, 1) := by decide +kernel
theorem dL_law__319 : decode cL_law_ 319 = .ok (.aload_n 3, 1) := by decide +kernel
theorem dL_law__320 : decode cL_law_ 320 = .ok (.invokestatic 103, 3) := by decide +kernel
theorem dL_law__323 : decode cL_law_ 323 = .ok (.istore 5, 2) := by decide +kernel
theorem dL_law__325 : decode cL_law_ 325 = .ok (.aload_n 2, 1) := by decide +kernel
theorem dL_law__326 : decode cL_law_ 326 = .ok (.aload_n 0, 1) := by decide +kernel
theorem dL_law__327 : decode cL_law_ 327 = .ok (.iload 4, 2) := by decide +kernel
theorem dL_law__329 : decode cL_law_ 329 = .ok (.iconst 1, 1) := by decide +kernel
theorem dL_law__330 : decode cL_law_ 330 = .ok (.iadd, 1) := by decide +kernel
theorem dL_law__331 : decode cL_law_ 331 = .ok (.iaload, 1) := by decide +kernel
theorem dL_law__332 : decode cL_law_ 332 = .ok (.invokevirtual 106, 3) := by decide +kernel
theorem dL_law__335 : decode cL_law_ 335 = .ok (.istore 6, 2) := by decide +kernel
theorem dL_law__337 : decode cL_law_ 337 = .ok (.aload_n 2, 1) := by decide +kernel
theorem dL_law__338 : decode cL_law_ 338 = .ok (.invokevirtual 96, 3) := by decide +kernel
theorem dL_law__341 : decode cL_law_ 341 = .ok (.iload 5, 2) := by decide +kernel
theorem dL_law__343 : decode cL_law_ 343 = .ok (.if_icmp .eq 5, 3) := by decide +kernel
theorem dL_law__346 : decode cL_law_ 346 = .ok (.iconst 0, 1) := by decide +kernel
theorem dL_law__347 : decode cL_law_ 347 = .ok (.ireturn, 1) := by decide +kernel
theorem dL_law__348 : decode cL_law_ 348 = .ok (.iload 5, 2) := by decide +kernel
theorem dL_law__350 : decode cL_law_ 350 = .ok (.ifCond .ne 15, 3) := by decide +kernel
theorem dL_law__353 : decode cL_law_ 353 = .ok (.aload_n 3, 1) := by decide +kernel
theorem dL_law__354 : decode cL_law_ 354 = .ok (.iconst 0, 1) := by decide +kernel
theorem dL_law__355 : decode cL_law_ 355 = .ok (.laload, 1) := by decide +kernel
theorem dL_law__356 : decode cL_law_ 356 = .ok (.iload 6, 2) := by decide +kernel
theorem dL_law__358 : decode cL_law_ 358 = .ok (.i2l, 1) := by decide +kernel
theorem dL_law__359 : decode cL_law_ 359 = .ok (.lcmp, 1) := by decide +kernel
theorem dL_law__360 : decode cL_law_ 360 = .ok (.ifCond .eq 5, 3) := by decide +kernel
theorem dL_law__363 : decode cL_law_ 363 = .ok (.iconst 0, 1) := by decide +kernel
theorem dL_law__364 : decode cL_law_ 364 = .ok (.ireturn, 1) := by decide +kernel
theorem dL_law__365 : decode cL_law_ 365 = .ok (.goto 1217, 3) := by decide +kernel
theorem dL_law__368 : decode cL_law_ 368 = .ok (.aload_n 1, 1) := by decide +kernel
theorem dL_law__369 : decode cL_law_ 369 = .ok (.aload_n 0, 1) := by decide +kernel
theorem dL_law__370 : decode cL_law_ 370 = .ok (.iload 4, 2) := by decide +kernel
theorem dL_law__372 : decode cL_law_ 372 = .ok (.iconst 1, 1) := by decide +kernel
theorem dL_law__373 : decode cL_law_ 373 = .ok (.iadd, 1) := by decide +kernel
theorem dL_law__374 : decode cL_law_ 374 = .ok (.iaload, 1) := by decide +kernel
theorem dL_law__375 : decode cL_law_ 375 = .ok (.aload_n 0, 1) := by decide +kernel
theorem dL_law__376 : decode cL_law_ 376 = .ok (.iload 4, 2) := by decide +kernel
theorem dL_law__378 : decode cL_law_ 378 = .ok (.iconst 2, 1) := by decide +kernel
theorem dL_law__379 : decode cL_law_ 379 = .ok (.iadd, 1) := by decide +kernel
theorem dL_law__380 : decode cL_law_ 380 = .ok (.iaload, 1) := by decide +kernel
theorem dL_law__381 : decode cL_law_ 381 = .ok (.aload_n 0, 1) := by decide +kernel
theorem dL_law__382 : decode cL_law_ 382 = .ok (.iload 4, 2) := by decide +kernel
theorem dL_law__384 : decode cL_law_ 384 = .ok (.iconst 3, 1) := by decide +kernel
theorem dL_law__385 : decode cL_law_ 385 = .ok (.iadd, 1) := by decide +kernel
theorem dL_law__386 : decode cL_law_ 386 = .ok (.iaload, 1) := by decide +kernel
theorem dL_law__387 : decode cL_law_ 387 = .ok (.aload_n 0, 1) := by decide +kernel
theorem dL_law__388 : decode cL_law_ 388 = .ok (.iload 4, 2) := by decide +kernel
theorem dL_law__390 : decode cL_law_ 390 = .ok (.iconst 4, 1) := by decide +kernel
theorem dL_law__391 : decode cL_law_ 391 = .ok (.iadd, 1) := by decide +kernel
theorem dL_law__392 : decode cL_law_ 392 = .ok (.iaload, 1) := by decide +kernel
theorem dL_law__393 : decode cL_law_ 393 = .ok (.invokestatic 107, 3) := by decide +kernel
theorem dL_law__396 : decode cL_law_ 396 = .ok (.istore 5, 2) := by decide +kernel
theorem dL_law__398 : decode cL_law_ 398 = .ok (.aload_n 2, 1) := by decide +kernel
theorem dL_law__399 : decode cL_law_ 399 = .ok (.aload_n 0, 1) := by decide +kernel
theorem dL_law__400 : decode cL_law_ 400 = .ok (.iload 4, 2) := by decide +kernel
theorem dL_law__402 : decode cL_law_ 402 = .ok (.iconst 1, 1) := by decide +kernel
theorem dL_law__403 : decode cL_law_ 403 = .ok (.iadd, 1) := by decide +kernel
theorem dL_law__404 : decode cL_law_ 404 = .ok (.iaload, 1) := by decide +kernel
theorem dL_law__405 : decode cL_law_ 405 = .ok (.aload_n 0, 1) := by decide +kernel
theorem dL_law__406 : decode cL_law_ 406 = .ok (.iload 4, 2) := by decide +kernel
theorem dL_law__408 : decode cL_law_ 408 = .ok (.iconst 2, 1) := by decide +kernel
theorem dL_law__409 : decode cL_law_ 409 = .ok (.iadd, 1) := by decide +kernel
theorem dL_law__410 : decode cL_law_ 410 = .ok (.iaload, 1) := by decide +kernel
theorem dL_law__411 : decode cL_law_ 411 = .ok (.aload_n 0, 1) := by decide +kernel
theorem dL_law__412 : decode cL_law_ 412 = .ok (.iload 4, 2) := by decide +kernel
theorem dL_law__414 : decode cL_law_ 414 = .ok (.iconst 3, 1) := by decide +kernel
theorem dL_law__415 : decode cL_law_ 415 = .ok (.iadd, 1) := by decide +kernel
theorem dL_law__416 : decode cL_law_ 416 = .ok (.iaload, 1) := by decide +kernel
theorem dL_law__417 : decode cL_law_ 417 = .ok (.aload_n 0, 1) := by decide +kernel
theorem dL_law__418 : decode cL_law_ 418 = .ok (.iload 4, 2) := by decide +kernel
theorem dL_law__420 : decode cL_law_ 420 = .ok (.iconst 4, 1) := by decide +kernel
theorem dL_law__421 : decode cL_law_ 421 = .ok (.iadd, 1) := by decide +kernel
theorem dL_law__422 : decode cL_law_ 422 = .ok (.iaload, 1) := by decide +kernel
theorem dL_law__423 : decode cL_law_ 423 = .ok (.invokevirtual 110, 3) := by decide +kernel
theorem dL_law__426 : decode cL_law_ 426 = .ok (.aload_n 2, 1) := by decide +kernel
theorem dL_law__427 : decode cL_law_ 427 = .ok (.invokevirtual 96, 3) := by decide +kernel
theorem dL_law__430 : decode cL_law_ 430 = .ok (.iload 5, 2) := by decide +kernel
theorem dL_law__432 : decode cL_law_ 432 = .ok (.if_icmp .eq 5, 3) := by decide +kernel
theorem dL_law__435 : decode cL_law_ 435 = .ok (.iconst 0, 1) := by decide +kernel
theorem dL_law__436 : decode cL_law_ 436 = .ok (.ireturn, 1) := by decide +kernel
theorem dL_law__437 : decode cL_law_ 437 = .ok (.goto 1145, 3) := by decide +kernel
theorem dL_law__440 : decode cL_law_ 440 = .ok (.aload_n 1, 1) := by decide +kernel
theorem dL_law__441 : decode cL_law_ 441 = .ok (.aload_n 0, 1) := by decide +kernel
theorem dL_law__442 : decode cL_law_ 442 = .ok (.iload 4, 2) := by decide +kernel
theorem dL_law__444 : decode cL_law_ 444 = .ok (.iconst 1, 1) := by decide +kernel
theorem dL_law__445 : decode cL_law_ 445 = .ok (.iadd, 1) := by decide +kernel
theorem dL_law__446 : decode cL_law_ 446 = .ok (.iaload, 1) := by decide +kernel
theorem dL_law__447 : decode cL_law_ 447 = .ok (.aload_n 0, 1) := by decide +kernel
theorem dL_law__448 : decode cL_law_ 448 = .ok (.iload 4, 2) := by decide +kernel
theorem dL_law__450 : decode cL_law_ 450 = .ok (.iconst 2, 1) := by decide +kernel
theorem dL_law__451 : decode cL_law_ 451 = .ok (.iadd, 1) := by decide +kernel
theorem dL_law__452 : decode cL_law_ 452 = .ok (.iaload, 1) := by decide +kernel
theorem dL_law__453 : decode cL_law_ 453 = .ok (.aload_n 3, 1) := by decide +kernel
theorem dL_law__454 : decode cL_law_ 454 = .ok (.invokestatic 111, 3) := by decide +kernel
theorem dL_law__457 : decode cL_law_ 457 = .ok (.istore 5, 2) := by decide +kernel
theorem dL_law__459 : decode cL_law_ 459 = .ok (.aload_n 2, 1) := by decide +kernel
theorem dL_law__460 : decode cL_law_ 460 = .ok (.aload_n 0, 1) := by decide +kernel
theorem dL_law__461 : decode cL_law_ 461 = .ok (.iload 4, 2) := by decide +kernel
theorem dL_law__463 : decode cL_law_ 463 = .ok (.iconst 1, 1) := by decide +kernel
theorem dL_law__464 : decode cL_law_ 464 = .ok (.iadd, 1) := by decide +kernel
theorem dL_law__465 : decode cL_law_ 465 = .ok (.iaload, 1) := by decide +kernel
theorem dL_law__466 : decode cL_law_ 466 = .ok (.aload_n 0, 1) := by decide +kernel
theorem dL_law__467 : decode cL_law_ 467 = .ok (.iload 4, 2) := by decide +kernel
theorem dL_law__469 : decode cL_law_ 469 = .ok (.iconst 2, 1) := by decide +kernel
theorem dL_law__470 : decode cL_law_ 470 = .ok (.iadd, 1) := by decide +kernel
theorem dL_law__471 : decode cL_law_ 471 = .ok (.iaload, 1) := by decide +kernel
theorem dL_law__472 : decode cL_law_ 472 = .ok (.invokevirtual 113, 3) := by decide +kernel
theorem dL_law__475 : decode cL_law_ 475 = .ok (.istore 6, 2) := by decide +kernel
theorem dL_law__477 : decode cL_law_ 477 = .ok (.aload_n 2, 1) := by decide +kernel
theorem dL_law__478 : decode cL_law_ 478 = .ok (.invokevirtual 96, 3) := by decide +kernel
theorem dL_law__481 : decode cL_law_ 481 = .ok (.iload 5, 2) := by decide +kernel
theorem dL_law__483 : decode cL_law_ 483 = .ok (.if_icmp .eq 5, 3) := by decide +kernel
theorem dL_law__486 : decode cL_law_ 486 = .ok (.iconst 0, 1) := by decide +kernel
theorem dL_law__487 : decode cL_law_ 487 = .ok (.ireturn, 1) := by decide +kernel
theorem dL_law__488 : decode cL_law_ 488 = .ok (.iload 5, 2) := by decide +kernel
theorem dL_law__490 : decode cL_law_ 490 = .ok (.ifCond .ne 15, 3) := by decide +kernel
theorem dL_law__493 : decode cL_law_ 493 = .ok (.aload_n 3, 1) := by decide +kernel
theorem dL_law__494 : decode cL_law_ 494 = .ok (.iconst 0, 1) := by decide +kernel
theorem dL_law__495 : decode cL_law_ 495 = .ok (.laload, 1) := by decide +kernel
theorem dL_law__496 : decode cL_law_ 496 = .ok (.iload 6, 2) := by decide +kernel
theorem dL_law__498 : decode cL_law_ 498 = .ok (.i2l, 1) := by decide +kernel
theorem dL_law__499 : decode cL_law_ 499 = .ok (.lcmp, 1) := by decide +kernel
theorem dL_law__500 : decode cL_law_ 500 = .ok (.ifCond .eq 5, 3) := by decide +kernel
theorem dL_law__503 : decode cL_law_ 503 = .ok (.iconst 0, 1) := by decide +kernel
theorem dL_law__504 : decode cL_law_ 504 = .ok (.ireturn, 1) := by decide +kernel
theorem dL_law__505 : decode cL_law_ 505 = .ok (.goto 1077, 3) := by decide +kernel
theorem dL_law__508 : decode cL_law_ 508 = .ok (.aload_n 1, 1) := by decide +kernel
theorem dL_law__509 : decode cL_law_ 509 = .ok (.aload_n 0, 1) := by decide +kernel
theorem dL_law__510 : decode cL_law_ 510 = .ok (.iload 4, 2) := by decide +kernel
theorem dL_law__512 : decode cL_law_ 512 = .ok (.iconst 1, 1) := by decide +kernel
theorem dL_law__513 : decode cL_law_ 513 = .ok (.iadd, 1) := by decide +kernel
theorem dL_law__514 : decode cL_law_ 514 = .ok (.iaload, 1) := by decide +kernel
theorem dL_law__515 : decode cL_law_ 515 = .ok (.aload_n 0, 1) := by decide +kernel
theorem dL_law__516 : decode cL_law_ 516 = .ok (.iload 4, 2) := by decide +kernel
theorem dL_law__518 : decode cL_law_ 518 = .ok (.iconst 2, 1) := by decide +kernel
theorem dL_law__519 : decode cL_law_ 519 = .ok (.iadd, 1) := by decide +kernel
theorem dL_law__520 : decode cL_law_ 520 = .ok (.iaload, 1) := by decide +kernel
theorem dL_law__521 : decode cL_law_ 521 = .ok (.aload_n 3, 1) := by decide +kernel
theorem dL_law__522 : decode cL_law_ 522 = .ok (.invokestatic 114, 3) := by decide +kernel
theorem dL_law__525 : decode cL_law_ 525 = .ok (.istore 5, 2) := by decide +kernel
theorem dL_law__527 : decode cL_law_ 527 = .ok (.aload_n 2, 1) := by decide +kernel
theorem dL_law__528 : decode cL_law_ 528 = .ok (.aload_n 0, 1) := by decide +kernel
theorem dL_law__529 : decode cL_law_ 529 = .ok (.iload 4, 2) := by decide +kernel
theorem dL_law__531 : decode cL_law_ 531 = .ok (.iconst 1, 1) := by decide +kernel
theorem dL_law__532 : decode cL_law_ 532 = .ok (.iadd, 1) := by decide +kernel
theorem dL_law__533 : decode cL_law_ 533 = .ok (.iaload, 1) := by decide +kernel
theorem dL_law__534 : decode cL_law_ 534 = .ok (.aload_n 0, 1) := by decide +kernel
theorem dL_law__535 : decode cL_law_ 535 = .ok (.iload 4, 2) := by decide +kernel
theorem dL_law__537 : decode cL_law_ 537 = .ok (.iconst 2, 1) := by decide +kernel
theorem dL_law__538 : decode cL_law_ 538 = .ok (.iadd, 1) := by decide +kernel
theorem dL_law__539 : decode cL_law_ 539 = .ok (.iaload, 1) := by decide +kernel
theorem dL_law__540 : decode cL_law_ 540 = .ok (.invokevirtual 116, 3) := by decide +kernel
theorem dL_law__543 : decode cL_law_ 543 = .ok (.istore 6, 2) := by decide +kernel
theorem dL_law__545 : decode cL_law_ 545 = .ok (.aload_n 2, 1) := by decide +kernel
theorem dL_law__546 : decode cL_law_ 546 = .ok (.invokevirtual 96, 3) := by decide +kernel
theorem dL_law__549 : decode cL_law_ 549 = .ok (.iload 5, 2) := by decide +kernel
theorem dL_law__551 : decode cL_law_ 551 = .ok (.if_icmp .eq 5, 3) := by decide +kernel
theorem dL_law__554 : decode cL_law_ 554 = .ok (.iconst 0, 1) := by decide +kernel
theorem dL_law__555 : decode cL_law_ 555 = .ok (.ireturn, 1) := by decide +kernel
theorem dL_law__556 : decode cL_law_ 556 = .ok (.iload 5, 2) := by decide +kernel
theorem dL_law__558 : decode cL_law_ 558 = .ok (.ifCond .ne 15, 3) := by decide +kernel
theorem dL_law__561 : decode cL_law_ 561 = .ok (.aload_n 3, 1) := by decide +kernel
theorem dL_law__562 : decode cL_law_ 562 = .ok (.iconst 0, 1) := by decide +kernel
theorem dL_law__563 : decode cL_law_ 563 = .ok (.laload, 1) := by decide +kernel
theorem dL_law__564 : decode cL_law_ 564 = .ok (.iload 6, 2) := by decide +kernel
theorem dL_law__566 : decode cL_law_ 566 = .ok (.i2l, 1) := by decide +kernel
theorem dL_law__567 : decode cL_law_ 567 = .ok (.lcmp, 1) := by decide +kernel
theorem dL_law__568 : decode cL_law_ 568 = .ok (.ifCond .eq 5, 3) := by decide +kernel
theorem dL_law__571 : decode cL_law_ 571 = .ok (.iconst 0, 1) := by decide +kernel
theorem dL_law__572 : decode cL_law_ 572 = .ok (.ireturn, 1) := by decide +kernel
theorem dL_law__573 : decode cL_law_ 573 = .ok (.goto 1009, 3) := by decide +kernel
theorem dL_law__576 : decode cL_law_ 576 = .ok (.aload_n 1, 1) := by decide +kernel
theorem dL_law__577 : decode cL_law_ 577 = .ok (.aload_n 0, 1) := by decide +kernel
theorem dL_law__578 : decode cL_law_ 578 = .ok (.iload 4, 2) := by decide +kernel
theorem dL_law__580 : decode cL_law_ 580 = .ok (.iconst 1, 1) := by decide +kernel
theorem dL_law__581 : decode cL_law_ 581 = .ok (.iadd, 1) := by decide +kernel
theorem dL_law__582 : decode cL_law_ 582 = .ok (.iaload, 1) := by decide +kernel
theorem dL_law__583 : decode cL_law_ 583 = .ok (.aload_n 0, 1) := by decide +kernel
theorem dL_law__584 : decode cL_law_ 584 = .ok (.iload 4, 2) := by decide +kernel
theorem dL_law__586 : decode cL_law_ 586 = .ok (.iconst 2, 1) := by decide +kernel
theorem dL_law__587 : decode cL_law_ 587 = .ok (.iadd, 1) := by decide +kernel
theorem dL_law__588 : decode cL_law_ 588 = .ok (.iaload, 1) := by decide +kernel
theorem dL_law__589 : decode cL_law_ 589 = .ok (.aload_n 3, 1) := by decide +kernel
theorem dL_law__590 : decode cL_law_ 590 = .ok (.invokestatic 117, 3) := by decide +kernel
theorem dL_law__593 : decode cL_law_ 593 = .ok (.istore 5, 2) := by decide +kernel
theorem dL_law__595 : decode cL_law_ 595 = .ok (.aload_n 2, 1) := by decide +kernel
theorem dL_law__596 : decode cL_law_ 596 = .ok (.aload_n 0, 1) := by decide +kernel
theorem dL_law__597 : decode cL_law_ 597 = .ok (.iload 4, 2) := by decide +kernel
theorem dL_law__599 : decode cL_law_ 599 = .ok (.iconst 1, 1) := by decide +kernel
theorem dL_law__600 : decode cL_law_ 600 = .ok (.iadd, 1) := by decide +kernel
theorem dL_law__601 : decode cL_law_ 601 = .ok (.iaload, 1) := by decide +kernel
theorem dL_law__602 : decode cL_law_ 602 = .ok (.aload_n 0, 1) := by decide +kernel
theorem dL_law__603 : decode cL_law_ 603 = .ok (.iload 4, 2) := by decide +kernel
theorem dL_law__605 : decode cL_law_ 605 = .ok (.iconst 2, 1) := by decide +kernel
theorem dL_law__606 : decode cL_law_ 606 = .ok (.iadd, 1) := by decide +kernel
theorem dL_law__607 : decode cL_law_ 607 = .ok (.iaload, 1) := by decide +kernel
theorem dL_law__608 : decode cL_law_ 608 = .ok (.invokevirtual 119, 3) := by decide +kernel
theorem dL_law__611 : decode cL_law_ 611 = .ok (.istore 6, 2) := by decide +kernel
theorem dL_law__613 : decode cL_law_ 613 = .ok (.aload_n 2, 1) := by decide +kernel
theorem dL_law__614 : decode cL_law_ 614 = .ok (.invokevirtual 96, 3) := by decide +kernel
theorem dL_law__617 : decode cL_law_ 617 = .ok (.iload 5, 2) := by decide +kernel
theorem dL_law__619 : decode cL_law_ 619 = .ok (.if_icmp .eq 5, 3) := by decide +kernel
theorem dL_law__622 : decode cL_law_ 622 = .ok (.iconst 0, 1) := by decide +kernel
theorem dL_law__623 : decode cL_law_ 623 = .ok (.ireturn, 1) := by decide +kernel
theorem dL_law__624 : decode cL_law_ 624 = .ok (.iload 5, 2) := by decide +kernel
theorem dL_law__626 : decode cL_law_ 626 = .ok (.ifCond .ne 15, 3) := by decide +kernel
theorem dL_law__629 : decode cL_law_ 629 = .ok (.aload_n 3, 1) := by decide +kernel
theorem dL_law__630 : decode cL_law_ 630 = .ok (.iconst 0, 1) := by decide +kernel
theorem dL_law__631 : decode cL_law_ 631 = .ok (.laload, 1) := by decide +kernel
theorem dL_law__632 : decode cL_law_ 632 = .ok (.iload 6, 2) := by decide +kernel
theorem dL_law__634 : decode cL_law_ 634 = .ok (.i2l, 1) := by decide +kernel
theorem dL_law__635 : decode cL_law_ 635 = .ok (.lcmp, 1) := by decide +kernel
theorem dL_law__636 : decode cL_law_ 636 = .ok (.ifCond .eq 5, 3) := by decide +kernel
theorem dL_law__639 : decode cL_law_ 639 = .ok (.iconst 0, 1) := by decide +kernel
theorem dL_law__640 : decode cL_law_ 640 = .ok (.ireturn, 1) := by decide +kernel
theorem dL_law__641 : decode cL_law_ 641 = .ok (.goto 941, 3) := by decide +kernel
theorem dL_law__644 : decode cL_law_ 644 = .ok (.aload_n 1, 1) := by decide +kernel
theorem dL_law__645 : decode cL_law_ 645 = .ok (.aload_n 0, 1) := by decide +kernel
theorem dL_law__646 : decode cL_law_ 646 = .ok (.iload 4, 2) := by decide +kernel
theorem dL_law__648 : decode cL_law_ 648 = .ok (.iconst 1, 1) := by decide +kernel
theorem dL_law__649 : decode cL_law_ 649 = .ok (.iadd, 1) := by decide +kernel
theorem dL_law__650 : decode cL_law_ 650 = .ok (.iaload, 1) := by decide +kernel
theorem dL_law__651 : decode cL_law_ 651 = .ok (.aload_n 0, 1) := by decide +kernel
theorem dL_law__652 : decode cL_law_ 652 = .ok (.iload 4, 2) := by decide +kernel
theorem dL_law__654 : decode cL_law_ 654 = .ok (.iconst 2, 1) := by decide +kernel
theorem dL_law__655 : decode cL_law_ 655 = .ok (.iadd, 1) := by decide +kernel
theorem dL_law__656 : decode cL_law_ 656 = .ok (.iaload, 1) := by decide +kernel
theorem dL_law__657 : decode cL_law_ 657 = .ok (.aload_n 0, 1) := by decide +kernel
theorem dL_law__658 : decode cL_law_ 658 = .ok (.iload 4, 2) := by decide +kernel
theorem dL_law__660 : decode cL_law_ 660 = .ok (.iconst 3, 1) := by decide +kernel
theorem dL_law__661 : decode cL_law_ 661 = .ok (.iadd, 1) := by decide +kernel
theorem dL_law__662 : decode cL_law_ 662 = .ok (.iaload, 1) := by decide +kernel
theorem dL_law__663 : decode cL_law_ 663 = .ok (.aload_n 3, 1) := by decide +kernel
theorem dL_law__664 : decode cL_law_ 664 = .ok (.invokestatic 120, 3) := by decide +kernel
theorem dL_law__667 : decode cL_law_ 667 = .ok (.istore 5, 2) := by decide +kernel
theorem dL_law__669 : decode cL_law_ 669 = .ok (.aload_n 2, 1) := by decide +kernel
theorem dL_law__670 : decode cL_law_ 670 = .ok (.aload_n 0, 1) := by decide +kernel
theorem dL_law__671 : decode cL_law_ 671 = .ok (.iload 4, 2) := by decide +kernel
theorem dL_law__673 : decode cL_law_ 673 = .ok (.iconst 1, 1) := by decide +kernel
theorem dL_law__674 : decode cL_law_ 674 = .ok (.iadd, 1) := by decide +kernel
theorem dL_law__675 : decode cL_law_ 675 = .ok (.iaload, 1) := by decide +kernel
theorem dL_law__676 : decode cL_law_ 676 = .ok (.aload_n 0, 1) := by decide +kernel
theorem dL_law__677 : decode cL_law_ 677 = .ok (.iload 4, 2) := by decide +kernel
theorem dL_law__679 : decode cL_law_ 679 = .ok (.iconst 2, 1) := by decide +kernel
theorem dL_law__680 : decode cL_law_ 680 = .ok (.iadd, 1) := by decide +kernel
theorem dL_law__681 : decode cL_law_ 681 = .ok (.iaload, 1) := by decide +kernel
theorem dL_law__682 : decode cL_law_ 682 = .ok (.aload_n 0, 1) := by decide +kernel
theorem dL_law__683 : decode cL_law_ 683 = .ok (.iload 4, 2) := by decide +kernel
theorem dL_law__685 : decode cL_law_ 685 = .ok (.iconst 3, 1) := by decide +kernel
theorem dL_law__686 : decode cL_law_ 686 = .ok (.iadd, 1) := by decide +kernel
theorem dL_law__687 : decode cL_law_ 687 = .ok (.iaload, 1) := by decide +kernel
theorem dL_law__688 : decode cL_law_ 688 = .ok (.invokevirtual 123, 3) := by decide +kernel
theorem dL_law__691 : decode cL_law_ 691 = .ok (.istore 6, 2) := by decide +kernel
theorem dL_law__693 : decode cL_law_ 693 = .ok (.aload_n 2, 1) := by decide +kernel
theorem dL_law__694 : decode cL_law_ 694 = .ok (.invokevirtual 96, 3) := by decide +kernel
theorem dL_law__697 : decode cL_law_ 697 = .ok (.iload 5, 2) := by decide +kernel
theorem dL_law__699 : decode cL_law_ 699 = .ok (.if_icmp .eq 5, 3) := by decide +kernel
theorem dL_law__702 : decode cL_law_ 702 = .ok (.iconst 0, 1) := by decide +kernel
theorem dL_law__703 : decode cL_law_ 703 = .ok (.ireturn, 1) := by decide +kernel
theorem dL_law__704 : decode cL_law_ 704 = .ok (.iload 5, 2) := by decide +kernel
theorem dL_law__706 : decode cL_law_ 706 = .ok (.ifCond .ne 15, 3) := by decide +kernel
theorem dL_law__709 : decode cL_law_ 709 = .ok (.aload_n 3, 1) := by decide +kernel
theorem dL_law__710 : decode cL_law_ 710 = .ok (.iconst 0, 1) := by decide +kernel
theorem dL_law__711 : decode cL_law_ 711 = .ok (.laload, 1) := by decide +kernel
theorem dL_law__712 : decode cL_law_ 712 = .ok (.iload 6, 2) := by decide +kernel
theorem dL_law__714 : decode cL_law_ 714 = .ok (.i2l, 1) := by decide +kernel
theorem dL_law__715 : decode cL_law_ 715 = .ok (.lcmp, 1) := by decide +kernel
theorem dL_law__716 : decode cL_law_ 716 = .ok (.ifCond .eq 5, 3) := by decide +kernel
theorem dL_law__719 : decode cL_law_ 719 = .ok (.iconst 0, 1) := by decide +kernel
theorem dL_law__720 : decode cL_law_ 720 = .ok (.ireturn, 1) := by decide +kernel
theorem dL_law__721 : decode cL_law_ 721 = .ok (.goto 861, 3) := by decide +kernel
theorem dL_law__724 : decode cL_law_ 724 = .ok (.aload_n 1, 1) := by decide +kernel
theorem dL_law__725 : decode cL_law_ 725 = .ok (.aload_n 0, 1) := by decide +kernel
theorem dL_law__726 : decode cL_law_ 726 = .ok (.iload 4, 2) := by decide +kernel
theorem dL_law__728 : decode cL_law_ 728 = .ok (.iconst 1, 1) := by decide +kernel
theorem dL_law__729 : decode cL_law_ 729 = .ok (.iadd, 1) := by decide +kernel
theorem dL_law__730 : decode cL_law_ 730 = .ok (.iaload, 1) := by decide +kernel
theorem dL_law__731 : decode cL_law_ 731 = .ok (.aload_n 0, 1) := by decide +kernel
theorem dL_law__732 : decode cL_law_ 732 = .ok (.iload 4, 2) := by decide +kernel
theorem dL_law__734 : decode cL_law_ 734 = .ok (.iconst 2, 1) := by decide +kernel
theorem dL_law__735 : decode cL_law_ 735 = .ok (.iadd, 1) := by decide +kernel
theorem dL_law__736 : decode cL_law_ 736 = .ok (.iaload, 1) := by decide +kernel
theorem dL_law__737 : decode cL_law_ 737 = .ok (.aload_n 0, 1) := by decide +kernel
theorem dL_law__738 : decode cL_law_ 738 = .ok (.iload 4, 2) := by decide +kernel
theorem dL_law__740 : decode cL_law_ 740 = .ok (.iconst 3, 1) := by decide +kernel
theorem dL_law__741 : decode cL_law_ 741 = .ok (.iadd, 1) := by decide +kernel
theorem dL_law__742 : decode cL_law_ 742 = .ok (.iaload, 1) := by decide +kernel
theorem dL_law__743 : decode cL_law_ 743 = .ok (.aload_n 3, 1) := by decide +kernel
theorem dL_law__744 : decode cL_law_ 744 = .ok (.invokestatic 124, 3) := by decide +kernel
theorem dL_law__747 : decode cL_law_ 747 = .ok (.istore 5, 2) := by decide +kernel
theorem dL_law__749 : decode cL_law_ 749 = .ok (.aload_n 2, 1) := by decide +kernel
theorem dL_law__750 : decode cL_law_ 750 = .ok (.aload_n 0, 1) := by decide +kernel
theorem dL_law__751 : decode cL_law_ 751 = .ok (.iload 4, 2) := by decide +kernel
theorem dL_law__753 : decode cL_law_ 753 = .ok (.iconst 1, 1) := by decide +kernel
theorem dL_law__754 : decode cL_law_ 754 = .ok (.iadd, 1) := by decide +kernel
theorem dL_law__755 : decode cL_law_ 755 = .ok (.iaload, 1) := by decide +kernel
theorem dL_law__756 : decode cL_law_ 756 = .ok (.aload_n 0, 1) := by decide +kernel
theorem dL_law__757 : decode cL_law_ 757 = .ok (.iload 4, 2) := by decide +kernel
theorem dL_law__759 : decode cL_law_ 759 = .ok (.iconst 2, 1) := by decide +kernel
theorem dL_law__760 : decode cL_law_ 760 = .ok (.iadd, 1) := by decide +kernel
theorem dL_law__761 : decode cL_law_ 761 = .ok (.iaload, 1) := by decide +kernel
theorem dL_law__762 : decode cL_law_ 762 = .ok (.aload_n 0, 1) := by decide +kernel
theorem dL_law__763 : decode cL_law_ 763 = .ok (.iload 4, 2) := by decide +kernel
theorem dL_law__765 : decode cL_law_ 765 = .ok (.iconst 3, 1) := by decide +kernel
theorem dL_law__766 : decode cL_law_ 766 = .ok (.iadd, 1) := by decide +kernel
theorem dL_law__767 : decode cL_law_ 767 = .ok (.iaload, 1) := by decide +kernel
theorem dL_law__768 : decode cL_law_ 768 = .ok (.invokevirtual 126, 3) := by decide +kernel
theorem dL_law__771 : decode cL_law_ 771 = .ok (.istore 6, 2) := by decide +kernel
theorem dL_law__773 : decode cL_law_ 773 = .ok (.aload_n 2, 1) := by decide +kernel
theorem dL_law__774 : decode cL_law_ 774 = .ok (.invokevirtual 96, 3) := by decide +kernel
theorem dL_law__777 : decode cL_law_ 777 = .ok (.iload 5, 2) := by decide +kernel
theorem dL_law__779 : decode cL_law_ 779 = .ok (.if_icmp .eq 5, 3) := by decide +kernel
theorem dL_law__782 : decode cL_law_ 782 = .ok (.iconst 0, 1) := by decide +kernel
theorem dL_law__783 : decode cL_law_ 783 = .ok (.ireturn, 1) := by decide +kernel
theorem dL_law__784 : decode cL_law_ 784 = .ok (.iload 5, 2) := by decide +kernel
theorem dL_law__786 : decode cL_law_ 786 = .ok (.ifCond .ne 15, 3) := by decide +kernel
theorem dL_law__789 : decode cL_law_ 789 = .ok (.aload_n 3, 1) := by decide +kernel
theorem dL_law__790 : decode cL_law_ 790 = .ok (.iconst 0, 1) := by decide +kernel
theorem dL_law__791 : decode cL_law_ 791 = .ok (.laload, 1) := by decide +kernel
theorem dL_law__792 : decode cL_law_ 792 = .ok (.iload 6, 2) := by decide +kernel
theorem dL_law__794 : decode cL_law_ 794 = .ok (.i2l, 1) := by decide +kernel
theorem dL_law__795 : decode cL_law_ 795 = .ok (.lcmp, 1) := by decide +kernel
theorem dL_law__796 : decode cL_law_ 796 = .ok (.ifCond .eq 5, 3) := by decide +kernel
theorem dL_law__799 : decode cL_law_ 799 = .ok (.iconst 0, 1) := by decide +kernel
theorem dL_law__800 : decode cL_law_ 800 = .ok (.ireturn, 1) := by decide +kernel
theorem dL_law__801 : decode cL_law_ 801 = .ok (.goto 781, 3) := by decide +kernel
theorem dL_law__804 : decode cL_law_ 804 = .ok (.aload_n 1, 1) := by decide +kernel
theorem dL_law__805 : decode cL_law_ 805 = .ok (.aload_n 0, 1) := by decide +kernel
theorem dL_law__806 : decode cL_law_ 806 = .ok (.iload 4, 2) := by decide +kernel
theorem dL_law__808 : decode cL_law_ 808 = .ok (.iconst 1, 1) := by decide +kernel
theorem dL_law__809 : decode cL_law_ 809 = .ok (.iadd, 1) := by decide +kernel
theorem dL_law__810 : decode cL_law_ 810 = .ok (.iaload, 1) := by decide +kernel
theorem dL_law__811 : decode cL_law_ 811 = .ok (.aload_n 0, 1) := by decide +kernel
theorem dL_law__812 : decode cL_law_ 812 = .ok (.iload 4, 2) := by decide +kernel
theorem dL_law__814 : decode cL_law_ 814 = .ok (.iconst 2, 1) := by decide +kernel
theorem dL_law__815 : decode cL_law_ 815 = .ok (.iadd, 1) := by decide +kernel
theorem dL_law__816 : decode cL_law_ 816 = .ok (.iaload, 1) := by decide +kernel
theorem dL_law__817 : decode cL_law_ 817 = .ok (.ifCond .eq 7, 3) := by decide +kernel
theorem dL_law__820 : decode cL_law_ 820 = .ok (.iconst 1, 1) := by decide +kernel
theorem dL_law__821 : decode cL_law_ 821 = .ok (.goto 4, 3) := by decide +kernel
theorem dL_law__824 : decode cL_law_ 824 = .ok (.iconst 0, 1) := by decide +kernel
theorem dL_law__825 : decode cL_law_ 825 = .ok (.aload_n 3, 1) := by decide +kernel
theorem dL_law__826 : decode cL_law_ 826 = .ok (.invokestatic 127, 3) := by decide +kernel
theorem dL_law__829 : decode cL_law_ 829 = .ok (.istore 5, 2) := by decide +kernel
theorem dL_law__831 : decode cL_law_ 831 = .ok (.aload_n 2, 1) := by decide +kernel
theorem dL_law__832 : decode cL_law_ 832 = .ok (.aload_n 0, 1) := by decide +kernel
theorem dL_law__833 : decode cL_law_ 833 = .ok (.iload 4, 2) := by decide +kernel
theorem dL_law__835 : decode cL_law_ 835 = .ok (.iconst 1, 1) := by decide +kernel
theorem dL_law__836 : decode cL_law_ 836 = .ok (.iadd, 1) := by decide +kernel
theorem dL_law__837 : decode cL_law_ 837 = .ok (.iaload, 1) := by decide +kernel
theorem dL_law__838 : decode cL_law_ 838 = .ok (.aload_n 0, 1) := by decide +kernel
theorem dL_law__839 : decode cL_law_ 839 = .ok (.iload 4, 2) := by decide +kernel
theorem dL_law__841 : decode cL_law_ 841 = .ok (.iconst 2, 1) := by decide +kernel
theorem dL_law__842 : decode cL_law_ 842 = .ok (.iadd, 1) := by decide +kernel
theorem dL_law__843 : decode cL_law_ 843 = .ok (.iaload, 1) := by decide +kernel
theorem dL_law__844 : decode cL_law_ 844 = .ok (.ifCond .eq 7, 3) := by decide +kernel
theorem dL_law__847 : decode cL_law_ 847 = .ok (.iconst 1, 1) := by decide +kernel
theorem dL_law__848 : decode cL_law_ 848 = .ok (.goto 4, 3) := by decide +kernel
theorem dL_law__851 : decode cL_law_ 851 = .ok (.iconst 0, 1) := by decide +kernel
theorem dL_law__852 : decode cL_law_ 852 = .ok (.invokevirtual 130, 3) := by decide +kernel
theorem dL_law__855 : decode cL_law_ 855 = .ok (.istore 6, 2) := by decide +kernel
theorem dL_law__857 : decode cL_law_ 857 = .ok (.aload_n 2, 1) := by decide +kernel
theorem dL_law__858 : decode cL_law_ 858 = .ok (.invokevirtual 96, 3) := by decide +kernel
theorem dL_law__861 : decode cL_law_ 861 = .ok (.iload 5, 2) := by decide +kernel
theorem dL_law__863 : decode cL_law_ 863 = .ok (.if_icmp .eq 5, 3) := by decide +kernel
theorem dL_law__866 : decode cL_law_ 866 = .ok (.iconst 0, 1) := by decide +kernel
theorem dL_law__867 : decode cL_law_ 867 = .ok (.ireturn, 1) := by decide +kernel
theorem dL_law__868 : decode cL_law_ 868 = .ok (.iload 5, 2) := by decide +kernel
theorem dL_law__870 : decode cL_law_ 870 = .ok (.ifCond .ne 22, 3) := by decide +kernel
theorem dL_law__873 : decode cL_law_ 873 = .ok (.aload_n 3, 1) := by decide +kernel
theorem dL_law__874 : decode cL_law_ 874 = .ok (.iconst 0, 1) := by decide +kernel
theorem dL_law__875 : decode cL_law_ 875 = .ok (.laload, 1) := by decide +kernel
theorem dL_law__876 : decode cL_law_ 876 = .ok (.iload 6, 2) := by decide +kernel
theorem dL_law__878 : decode cL_law_ 878 = .ok (.ifCond .eq 7, 3) := by decide +kernel
theorem dL_law__881 : decode cL_law_ 881 = .ok (.lconst 1, 1) := by decide +kernel
theorem dL_law__882 : decode cL_law_ 882 = .ok (.goto 4, 3) := by decide +kernel
theorem dL_law__885 : decode cL_law_ 885 = .ok (.lconst 0, 1) := by decide +kernel
theorem dL_law__886 : decode cL_law_ 886 = .ok (.lcmp, 1) := by decide +kernel
theorem dL_law__887 : decode cL_law_ 887 = .ok (.ifCond .eq 5, 3) := by decide +kernel
theorem dL_law__890 : decode cL_law_ 890 = .ok (.iconst 0, 1) := by decide +kernel
theorem dL_law__891 : decode cL_law_ 891 = .ok (.ireturn, 1) := by decide +kernel
theorem dL_law__892 : decode cL_law_ 892 = .ok (.goto 690, 3) := by decide +kernel
theorem dL_law__895 : decode cL_law_ 895 = .ok (.aload_n 1, 1) := by decide +kernel
theorem dL_law__896 : decode cL_law_ 896 = .ok (.aload_n 0, 1) := by decide +kernel
theorem dL_law__897 : decode cL_law_ 897 = .ok (.iload 4, 2) := by decide +kernel
theorem dL_law__899 : decode cL_law_ 899 = .ok (.iconst 1, 1) := by decide +kernel
theorem dL_law__900 : decode cL_law_ 900 = .ok (.iadd, 1) := by decide +kernel
theorem dL_law__901 : decode cL_law_ 901 = .ok (.iaload, 1) := by decide +kernel
theorem dL_law__902 : decode cL_law_ 902 = .ok (.aload_n 3, 1) := by decide +kernel
theorem dL_law__903 : decode cL_law_ 903 = .ok (.invokestatic 131, 3) := by decide +kernel
theorem dL_law__906 : decode cL_law_ 906 = .ok (.istore 5, 2) := by decide +kernel
theorem dL_law__908 : decode cL_law_ 908 = .ok (.aload_n 2, 1) := by decide +kernel
theorem dL_law__909 : decode cL_law_ 909 = .ok (.aload_n 0, 1) := by decide +kernel
theorem dL_law__910 : decode cL_law_ 910 = .ok (.iload 4, 2) := by decide +kernel
theorem dL_law__912 : decode cL_law_ 912 = .ok (.iconst 1, 1) := by decide +kernel
theorem dL_law__913 : decode cL_law_ 913 = .ok (.iadd, 1) := by decide +kernel
theorem dL_law__914 : decode cL_law_ 914 = .ok (.iaload, 1) := by decide +kernel
theorem dL_law__915 : decode cL_law_ 915 = .ok (.invokevirtual 133, 3) := by decide +kernel
theorem dL_law__918 : decode cL_law_ 918 = .ok (.istore 6, 2) := by decide +kernel
theorem dL_law__920 : decode cL_law_ 920 = .ok (.aload_n 2, 1) := by decide +kernel
theorem dL_law__921 : decode cL_law_ 921 = .ok (.invokevirtual 96, 3) := by decide +kernel
theorem dL_law__924 : decode cL_law_ 924 = .ok (.iload 5, 2) := by decide +kernel
theorem dL_law__926 : decode cL_law_ 926 = .ok (.if_icmp .eq 5, 3) := by decide +kernel
theorem dL_law__929 : decode cL_law_ 929 = .ok (.iconst 0, 1) := by decide +kernel
theorem dL_law__930 : decode cL_law_ 930 = .ok (.ireturn, 1) := by decide +kernel
theorem dL_law__931 : decode cL_law_ 931 = .ok (.iload 5, 2) := by decide +kernel
theorem dL_law__933 : decode cL_law_ 933 = .ok (.ifCond .ne 15, 3) := by decide +kernel
theorem dL_law__936 : decode cL_law_ 936 = .ok (.aload_n 3, 1) := by decide +kernel
theorem dL_law__937 : decode cL_law_ 937 = .ok (.iconst 0, 1) := by decide +kernel
theorem dL_law__938 : decode cL_law_ 938 = .ok (.laload, 1) := by decide +kernel
theorem dL_law__939 : decode cL_law_ 939 = .ok (.iload 6, 2) := by decide +kernel
theorem dL_law__941 : decode cL_law_ 941 = .ok (.i2l, 1) := by decide +kernel
theorem dL_law__942 : decode cL_law_ 942 = .ok (.lcmp, 1) := by decide +kernel
theorem dL_law__943 : decode cL_law_ 943 = .ok (.ifCond .eq 5, 3) := by decide +kernel
theorem dL_law__946 : decode cL_law_ 946 = .ok (.iconst 0, 1) := by decide +kernel
theorem dL_law__947 : decode cL_law_ 947 = .ok (.ireturn, 1) := by decide +kernel
theorem dL_law__948 : decode cL_law_ 948 = .ok (.goto 634, 3) := by decide +kernel
theorem dL_law__951 : decode cL_law_ 951 = .ok (.aload_n 1, 1) := by decide +kernel
theorem dL_law__952 : decode cL_law_ 952 = .ok (.aload_n 0, 1) := by decide +kernel
theorem dL_law__953 : decode cL_law_ 953 = .ok (.iload 4, 2) := by decide +kernel
theorem dL_law__955 : decode cL_law_ 955 = .ok (.iconst 1, 1) := by decide +kernel
theorem dL_law__956 : decode cL_law_ 956 = .ok (.iadd, 1) := by decide +kernel
theorem dL_law__957 : decode cL_law_ 957 = .ok (.iaload, 1) := by decide +kernel
theorem dL_law__958 : decode cL_law_ 958 = .ok (.aload_n 0, 1) := by decide +kernel
theorem dL_law__959 : decode cL_law_ 959 = .ok (.iload 4, 2) := by decide +kernel
theorem dL_law__961 : decode cL_law_ 961 = .ok (.iconst 2, 1) := by decide +kernel
theorem dL_law__962 : decode cL_law_ 962 = .ok (.iadd, 1) := by decide +kernel
theorem dL_law__963 : decode cL_law_ 963 = .ok (.iaload, 1) := by decide +kernel
theorem dL_law__964 : decode cL_law_ 964 = .ok (.aload_n 3, 1) := by decide +kernel
theorem dL_law__965 : decode cL_law_ 965 = .ok (.invokestatic 134, 3) := by decide +kernel
theorem dL_law__968 : decode cL_law_ 968 = .ok (.istore 5, 2) := by decide +kernel
theorem dL_law__970 : decode cL_law_ 970 = .ok (.aload_n 2, 1) := by decide +kernel
theorem dL_law__971 : decode cL_law_ 971 = .ok (.aload_n 0, 1) := by decide +kernel
theorem dL_law__972 : decode cL_law_ 972 = .ok (.iload 4, 2) := by decide +kernel
theorem dL_law__974 : decode cL_law_ 974 = .ok (.iconst 1, 1) := by decide +kernel
theorem dL_law__975 : decode cL_law_ 975 = .ok (.iadd, 1) := by decide +kernel
theorem dL_law__976 : decode cL_law_ 976 = .ok (.iaload, 1) := by decide +kernel
theorem dL_law__977 : decode cL_law_ 977 = .ok (.aload_n 0, 1) := by decide +kernel
theorem dL_law__978 : decode cL_law_ 978 = .ok (.iload 4, 2) := by decide +kernel
theorem dL_law__980 : decode cL_law_ 980 = .ok (.iconst 2, 1) := by decide +kernel
theorem dL_law__981 : decode cL_law_ 981 = .ok (.iadd, 1) := by decide +kernel
theorem dL_law__982 : decode cL_law_ 982 = .ok (.iaload, 1) := by decide +kernel
theorem dL_law__983 : decode cL_law_ 983 = .ok (.invokevirtual 136, 3) := by decide +kernel
theorem dL_law__986 : decode cL_law_ 986 = .ok (.istore 6, 2) := by decide +kernel
theorem dL_law__988 : decode cL_law_ 988 = .ok (.aload_n 2, 1) := by decide +kernel
theorem dL_law__989 : decode cL_law_ 989 = .ok (.invokevirtual 96, 3) := by decide +kernel
theorem dL_law__992 : decode cL_law_ 992 = .ok (.iload 5, 2) := by decide +kernel
theorem dL_law__994 : decode cL_law_ 994 = .ok (.if_icmp .eq 5, 3) := by decide +kernel
theorem dL_law__997 : decode cL_law_ 997 = .ok (.iconst 0, 1) := by decide +kernel
theorem dL_law__998 : decode cL_law_ 998 = .ok (.ireturn, 1) := by decide +kernel
theorem dL_law__999 : decode cL_law_ 999 = .ok (.iload 5, 2) := by decide +kernel
theorem dL_law__1001 : decode cL_law_ 1001 = .ok (.ifCond .ne 15, 3) := by decide +kernel
theorem dL_law__1004 : decode cL_law_ 1004 = .ok (.aload_n 3, 1) := by decide +kernel
theorem dL_law__1005 : decode cL_law_ 1005 = .ok (.iconst 0, 1) := by decide +kernel
theorem dL_law__1006 : decode cL_law_ 1006 = .ok (.laload, 1) := by decide +kernel
theorem dL_law__1007 : decode cL_law_ 1007 = .ok (.iload 6, 2) := by decide +kernel
theorem dL_law__1009 : decode cL_law_ 1009 = .ok (.i2l, 1) := by decide +kernel
theorem dL_law__1010 : decode cL_law_ 1010 = .ok (.lcmp, 1) := by decide +kernel
theorem dL_law__1011 : decode cL_law_ 1011 = .ok (.ifCond .eq 5, 3) := by decide +kernel
theorem dL_law__1014 : decode cL_law_ 1014 = .ok (.iconst 0, 1) := by decide +kernel
theorem dL_law__1015 : decode cL_law_ 1015 = .ok (.ireturn, 1) := by decide +kernel
theorem dL_law__1016 : decode cL_law_ 1016 = .ok (.goto 566, 3) := by decide +kernel
theorem dL_law__1019 : decode cL_law_ 1019 = .ok (.aload_n 1, 1) := by decide +kernel
theorem dL_law__1020 : decode cL_law_ 1020 = .ok (.invokevirtual 137, 3) := by decide +kernel
theorem dL_law__1023 : decode cL_law_ 1023 = .ok (.aload_n 2, 1) := by decide +kernel
theorem dL_law__1024 : decode cL_law_ 1024 = .ok (.invokevirtual 140, 3) := by decide +kernel
theorem dL_law__1027 : decode cL_law_ 1027 = .ok (.if_icmp .eq 555, 3) := by decide +kernel
theorem dL_law__1030 : decode cL_law_ 1030 = .ok (.iconst 0, 1) := by decide +kernel
theorem dL_law__1031 : decode cL_law_ 1031 = .ok (.ireturn, 1) := by decide +kernel
theorem dL_law__1032 : decode cL_law_ 1032 = .ok (.aload_n 1, 1) := by decide +kernel
theorem dL_law__1033 : decode cL_law_ 1033 = .ok (.aload_n 0, 1) := by decide +kernel
theorem dL_law__1034 : decode cL_law_ 1034 = .ok (.iload 4, 2) := by decide +kernel
theorem dL_law__1036 : decode cL_law_ 1036 = .ok (.iconst 1, 1) := by decide +kernel
theorem dL_law__1037 : decode cL_law_ 1037 = .ok (.iadd, 1) := by decide +kernel
theorem dL_law__1038 : decode cL_law_ 1038 = .ok (.iaload, 1) := by decide +kernel
theorem dL_law__1039 : decode cL_law_ 1039 = .ok (.aload_n 3, 1) := by decide +kernel
theorem dL_law__1040 : decode cL_law_ 1040 = .ok (.invokestatic 141, 3) := by decide +kernel
theorem dL_law__1043 : decode cL_law_ 1043 = .ok (.istore 5, 2) := by decide +kernel
theorem dL_law__1045 : decode cL_law_ 1045 = .ok (.aload_n 2, 1) := by decide +kernel
theorem dL_law__1046 : decode cL_law_ 1046 = .ok (.aload_n 0, 1) := by decide +kernel
theorem dL_law__1047 : decode cL_law_ 1047 = .ok (.iload 4, 2) := by decide +kernel
theorem dL_law__1049 : decode cL_law_ 1049 = .ok (.iconst 1, 1) := by decide +kernel
theorem dL_law__1050 : decode cL_law_ 1050 = .ok (.iadd, 1) := by decide +kernel
theorem dL_law__1051 : decode cL_law_ 1051 = .ok (.iaload, 1) := by decide +kernel
theorem dL_law__1052 : decode cL_law_ 1052 = .ok (.invokevirtual 143, 3) := by decide +kernel
theorem dL_law__1055 : decode cL_law_ 1055 = .ok (.istore 6, 2) := by decide +kernel
theorem dL_law__1057 : decode cL_law_ 1057 = .ok (.aload_n 2, 1) := by decide +kernel
theorem dL_law__1058 : decode cL_law_ 1058 = .ok (.invokevirtual 96, 3) := by decide +kernel
theorem dL_law__1061 : decode cL_law_ 1061 = .ok (.iload 5, 2) := by decide +kernel
theorem dL_law__1063 : decode cL_law_ 1063 = .ok (.if_icmp .eq 5, 3) := by decide +kernel
theorem dL_law__1066 : decode cL_law_ 1066 = .ok (.iconst 0, 1) := by decide +kernel
theorem dL_law__1067 : decode cL_law_ 1067 = .ok (.ireturn, 1) := by decide +kernel
theorem dL_law__1068 : decode cL_law_ 1068 = .ok (.iload 5, 2) := by decide +kernel
theorem dL_law__1070 : decode cL_law_ 1070 = .ok (.ifCond .ne 15, 3) := by decide +kernel
theorem dL_law__1073 : decode cL_law_ 1073 = .ok (.aload_n 3, 1) := by decide +kernel
theorem dL_law__1074 : decode cL_law_ 1074 = .ok (.iconst 0, 1) := by decide +kernel
theorem dL_law__1075 : decode cL_law_ 1075 = .ok (.laload, 1) := by decide +kernel
theorem dL_law__1076 : decode cL_law_ 1076 = .ok (.iload 6, 2) := by decide +kernel
theorem dL_law__1078 : decode cL_law_ 1078 = .ok (.i2l, 1) := by decide +kernel
theorem dL_law__1079 : decode cL_law_ 1079 = .ok (.lcmp, 1) := by decide +kernel
theorem dL_law__1080 : decode cL_law_ 1080 = .ok (.ifCond .eq 5, 3) := by decide +kernel
theorem dL_law__1083 : decode cL_law_ 1083 = .ok (.iconst 0, 1) := by decide +kernel
theorem dL_law__1084 : decode cL_law_ 1084 = .ok (.ireturn, 1) := by decide +kernel
theorem dL_law__1085 : decode cL_law_ 1085 = .ok (.goto 497, 3) := by decide +kernel
theorem dL_law__1088 : decode cL_law_ 1088 = .ok (.aload_n 1, 1) := by decide +kernel
theorem dL_law__1089 : decode cL_law_ 1089 = .ok (.aload_n 0, 1) := by decide +kernel
theorem dL_law__1090 : decode cL_law_ 1090 = .ok (.iload 4, 2) := by decide +kernel
theorem dL_law__1092 : decode cL_law_ 1092 = .ok (.iconst 1, 1) := by decide +kernel
theorem dL_law__1093 : decode cL_law_ 1093 = .ok (.iadd, 1) := by decide +kernel
theorem dL_law__1094 : decode cL_law_ 1094 = .ok (.iaload, 1) := by decide +kernel
theorem dL_law__1095 : decode cL_law_ 1095 = .ok (.aload_n 3, 1) := by decide +kernel
theorem dL_law__1096 : decode cL_law_ 1096 = .ok (.invokestatic 144, 3) := by decide +kernel
theorem dL_law__1099 : decode cL_law_ 1099 = .ok (.istore 5, 2) := by decide +kernel
theorem dL_law__1101 : decode cL_law_ 1101 = .ok (.aload_n 2, 1) := by decide +kernel
theorem dL_law__1102 : decode cL_law_ 1102 = .ok (.aload_n 0, 1) := by decide +kernel
theorem dL_law__1103 : decode cL_law_ 1103 = .ok (.iload 4, 2) := by decide +kernel
theorem dL_law__1105 : decode cL_law_ 1105 = .ok (.iconst 1, 1) := by decide +kernel
theorem dL_law__1106 : decode cL_law_ 1106 = .ok (.iadd, 1) := by decide +kernel
theorem dL_law__1107 : decode cL_law_ 1107 = .ok (.iaload, 1) := by decide +kernel
theorem dL_law__1108 : decode cL_law_ 1108 = .ok (.invokevirtual 146, 3) := by decide +kernel
theorem dL_law__1111 : decode cL_law_ 1111 = .ok (.istore 6, 2) := by decide +kernel
theorem dL_law__1113 : decode cL_law_ 1113 = .ok (.aload_n 2, 1) := by decide +kernel
theorem dL_law__1114 : decode cL_law_ 1114 = .ok (.invokevirtual 96, 3) := by decide +kernel
theorem dL_law__1117 : decode cL_law_ 1117 = .ok (.iload 5, 2) := by decide +kernel
theorem dL_law__1119 : decode cL_law_ 1119 = .ok (.if_icmp .eq 5, 3) := by decide +kernel
theorem dL_law__1122 : decode cL_law_ 1122 = .ok (.iconst 0, 1) := by decide +kernel
theorem dL_law__1123 : decode cL_law_ 1123 = .ok (.ireturn, 1) := by decide +kernel
theorem dL_law__1124 : decode cL_law_ 1124 = .ok (.iload 5, 2) := by decide +kernel
theorem dL_law__1126 : decode cL_law_ 1126 = .ok (.ifCond .ne 22, 3) := by decide +kernel
theorem dL_law__1129 : decode cL_law_ 1129 = .ok (.aload_n 3, 1) := by decide +kernel
theorem dL_law__1130 : decode cL_law_ 1130 = .ok (.iconst 0, 1) := by decide +kernel
theorem dL_law__1131 : decode cL_law_ 1131 = .ok (.laload, 1) := by decide +kernel
theorem dL_law__1132 : decode cL_law_ 1132 = .ok (.iload 6, 2) := by decide +kernel
theorem dL_law__1134 : decode cL_law_ 1134 = .ok (.ifCond .eq 7, 3) := by decide +kernel
theorem dL_law__1137 : decode cL_law_ 1137 = .ok (.lconst 1, 1) := by decide +kernel
theorem dL_law__1138 : decode cL_law_ 1138 = .ok (.goto 4, 3) := by decide +kernel
theorem dL_law__1141 : decode cL_law_ 1141 = .ok (.lconst 0, 1) := by decide +kernel
theorem dL_law__1142 : decode cL_law_ 1142 = .ok (.lcmp, 1) := by decide +kernel
theorem dL_law__1143 : decode cL_law_ 1143 = .ok (.ifCond .eq 5, 3) := by decide +kernel
theorem dL_law__1146 : decode cL_law_ 1146 = .ok (.iconst 0, 1) := by decide +kernel
theorem dL_law__1147 : decode cL_law_ 1147 = .ok (.ireturn, 1) := by decide +kernel
theorem dL_law__1148 : decode cL_law_ 1148 = .ok (.goto 434, 3) := by decide +kernel
theorem dL_law__1151 : decode cL_law_ 1151 = .ok (.aload_n 1, 1) := by decide +kernel
theorem dL_law__1152 : decode cL_law_ 1152 = .ok (.aload_n 0, 1) := by decide +kernel
theorem dL_law__1153 : decode cL_law_ 1153 = .ok (.iload 4, 2) := by decide +kernel
theorem dL_law__1155 : decode cL_law_ 1155 = .ok (.iconst 1, 1) := by decide +kernel
theorem dL_law__1156 : decode cL_law_ 1156 = .ok (.iadd, 1) := by decide +kernel
theorem dL_law__1157 : decode cL_law_ 1157 = .ok (.iaload, 1) := by decide +kernel
theorem dL_law__1158 : decode cL_law_ 1158 = .ok (.aload_n 3, 1) := by decide +kernel
theorem dL_law__1159 : decode cL_law_ 1159 = .ok (.invokestatic 147, 3) := by decide +kernel
theorem dL_law__1162 : decode cL_law_ 1162 = .ok (.istore 5, 2) := by decide +kernel
theorem dL_law__1164 : decode cL_law_ 1164 = .ok (.aload_n 2, 1) := by decide +kernel
theorem dL_law__1165 : decode cL_law_ 1165 = .ok (.aload_n 0, 1) := by decide +kernel
theorem dL_law__1166 : decode cL_law_ 1166 = .ok (.iload 4, 2) := by decide +kernel
theorem dL_law__1168 : decode cL_law_ 1168 = .ok (.iconst 1, 1) := by decide +kernel
theorem dL_law__1169 : decode cL_law_ 1169 = .ok (.iadd, 1) := by decide +kernel
theorem dL_law__1170 : decode cL_law_ 1170 = .ok (.iaload, 1) := by decide +kernel
theorem dL_law__1171 : decode cL_law_ 1171 = .ok (.invokevirtual 149, 3) := by decide +kernel
theorem dL_law__1174 : decode cL_law_ 1174 = .ok (.istore 6, 2) := by decide +kernel
theorem dL_law__1176 : decode cL_law_ 1176 = .ok (.aload_n 2, 1) := by decide +kernel
theorem dL_law__1177 : decode cL_law_ 1177 = .ok (.invokevirtual 96, 3) := by decide +kernel
theorem dL_law__1180 : decode cL_law_ 1180 = .ok (.iload 5, 2) := by decide +kernel
theorem dL_law__1182 : decode cL_law_ 1182 = .ok (.if_icmp .eq 5, 3) := by decide +kernel
theorem dL_law__1185 : decode cL_law_ 1185 = .ok (.iconst 0, 1) := by decide +kernel
theorem dL_law__1186 : decode cL_law_ 1186 = .ok (.ireturn, 1) := by decide +kernel
theorem dL_law__1187 : decode cL_law_ 1187 = .ok (.iload 5, 2) := by decide +kernel
theorem dL_law__1189 : decode cL_law_ 1189 = .ok (.ifCond .ne 15, 3) := by decide +kernel
theorem dL_law__1192 : decode cL_law_ 1192 = .ok (.aload_n 3, 1) := by decide +kernel
theorem dL_law__1193 : decode cL_law_ 1193 = .ok (.iconst 0, 1) := by decide +kernel
theorem dL_law__1194 : decode cL_law_ 1194 = .ok (.laload, 1) := by decide +kernel
theorem dL_law__1195 : decode cL_law_ 1195 = .ok (.iload 6, 2) := by decide +kernel
theorem dL_law__1197 : decode cL_law_ 1197 = .ok (.i2l, 1) := by decide +kernel
theorem dL_law__1198 : decode cL_law_ 1198 = .ok (.lcmp, 1) := by decide +kernel
theorem dL_law__1199 : decode cL_law_ 1199 = .ok (.ifCond .eq 5, 3) := by decide +kernel
theorem dL_law__1202 : decode cL_law_ 1202 = .ok (.iconst 0, 1) := by decide +kernel
theorem dL_law__1203 : decode cL_law_ 1203 = .ok (.ireturn, 1) := by decide +kernel
theorem dL_law__1204 : decode cL_law_ 1204 = .ok (.goto 378, 3) := by decide +kernel
theorem dL_law__1207 : decode cL_law_ 1207 = .ok (.aload_n 1, 1) := by decide +kernel
theorem dL_law__1208 : decode cL_law_ 1208 = .ok (.aload_n 0, 1) := by decide +kernel
theorem dL_law__1209 : decode cL_law_ 1209 = .ok (.iload 4, 2) := by decide +kernel
theorem dL_law__1211 : decode cL_law_ 1211 = .ok (.iconst 1, 1) := by decide +kernel
theorem dL_law__1212 : decode cL_law_ 1212 = .ok (.iadd, 1) := by decide +kernel
theorem dL_law__1213 : decode cL_law_ 1213 = .ok (.iaload, 1) := by decide +kernel
theorem dL_law__1214 : decode cL_law_ 1214 = .ok (.aload_n 3, 1) := by decide +kernel
theorem dL_law__1215 : decode cL_law_ 1215 = .ok (.invokestatic 150, 3) := by decide +kernel
theorem dL_law__1218 : decode cL_law_ 1218 = .ok (.istore 5, 2) := by decide +kernel
theorem dL_law__1220 : decode cL_law_ 1220 = .ok (.aload_n 2, 1) := by decide +kernel
theorem dL_law__1221 : decode cL_law_ 1221 = .ok (.aload_n 0, 1) := by decide +kernel
theorem dL_law__1222 : decode cL_law_ 1222 = .ok (.iload 4, 2) := by decide +kernel
theorem dL_law__1224 : decode cL_law_ 1224 = .ok (.iconst 1, 1) := by decide +kernel
theorem dL_law__1225 : decode cL_law_ 1225 = .ok (.iadd, 1) := by decide +kernel
theorem dL_law__1226 : decode cL_law_ 1226 = .ok (.iaload, 1) := by decide +kernel
theorem dL_law__1227 : decode cL_law_ 1227 = .ok (.invokevirtual 152, 3) := by decide +kernel
theorem dL_law__1230 : decode cL_law_ 1230 = .ok (.istore 6, 2) := by decide +kernel
theorem dL_law__1232 : decode cL_law_ 1232 = .ok (.aload_n 2, 1) := by decide +kernel
theorem dL_law__1233 : decode cL_law_ 1233 = .ok (.invokevirtual 96, 3) := by decide +kernel
theorem dL_law__1236 : decode cL_law_ 1236 = .ok (.iload 5, 2) := by decide +kernel
theorem dL_law__1238 : decode cL_law_ 1238 = .ok (.if_icmp .eq 5, 3) := by decide +kernel
theorem dL_law__1241 : decode cL_law_ 1241 = .ok (.iconst 0, 1) := by decide +kernel
theorem dL_law__1242 : decode cL_law_ 1242 = .ok (.ireturn, 1) := by decide +kernel
theorem dL_law__1243 : decode cL_law_ 1243 = .ok (.iload 5, 2) := by decide +kernel
theorem dL_law__1245 : decode cL_law_ 1245 = .ok (.ifCond .ne 15, 3) := by decide +kernel
theorem dL_law__1248 : decode cL_law_ 1248 = .ok (.aload_n 3, 1) := by decide +kernel
theorem dL_law__1249 : decode cL_law_ 1249 = .ok (.iconst 0, 1) := by decide +kernel
theorem dL_law__1250 : decode cL_law_ 1250 = .ok (.laload, 1) := by decide +kernel
theorem dL_law__1251 : decode cL_law_ 1251 = .ok (.iload 6, 2) := by decide +kernel
theorem dL_law__1253 : decode cL_law_ 1253 = .ok (.i2l, 1) := by decide +kernel
theorem dL_law__1254 : decode cL_law_ 1254 = .ok (.lcmp, 1) := by decide +kernel
theorem dL_law__1255 : decode cL_law_ 1255 = .ok (.ifCond .eq 5, 3) := by decide +kernel
theorem dL_law__1258 : decode cL_law_ 1258 = .ok (.iconst 0, 1) := by decide +kernel
theorem dL_law__1259 : decode cL_law_ 1259 = .ok (.ireturn, 1) := by decide +kernel
theorem dL_law__1260 : decode cL_law_ 1260 = .ok (.goto 322, 3) := by decide +kernel
theorem dL_law__1263 : decode cL_law_ 1263 = .ok (.aload_n 1, 1) := by decide +kernel
theorem dL_law__1264 : decode cL_law_ 1264 = .ok (.aload_n 0, 1) := by decide +kernel
theorem dL_law__1265 : decode cL_law_ 1265 = .ok (.iload 4, 2) := by decide +kernel
theorem dL_law__1267 : decode cL_law_ 1267 = .ok (.iconst 1, 1) := by decide +kernel
theorem dL_law__1268 : decode cL_law_ 1268 = .ok (.iadd, 1) := by decide +kernel
theorem dL_law__1269 : decode cL_law_ 1269 = .ok (.iaload, 1) := by decide +kernel
theorem dL_law__1270 : decode cL_law_ 1270 = .ok (.aload_n 3, 1) := by decide +kernel
theorem dL_law__1271 : decode cL_law_ 1271 = .ok (.invokestatic 153, 3) := by decide +kernel
theorem dL_law__1274 : decode cL_law_ 1274 = .ok (.istore 5, 2) := by decide +kernel
theorem dL_law__1276 : decode cL_law_ 1276 = .ok (.aload_n 2, 1) := by decide +kernel
theorem dL_law__1277 : decode cL_law_ 1277 = .ok (.aload_n 0, 1) := by decide +kernel
theorem dL_law__1278 : decode cL_law_ 1278 = .ok (.iload 4, 2) := by decide +kernel
theorem dL_law__1280 : decode cL_law_ 1280 = .ok (.iconst 1, 1) := by decide +kernel
theorem dL_law__1281 : decode cL_law_ 1281 = .ok (.iadd, 1) := by decide +kernel
theorem dL_law__1282 : decode cL_law_ 1282 = .ok (.iaload, 1) := by decide +kernel
theorem dL_law__1283 : decode cL_law_ 1283 = .ok (.invokevirtual 155, 3) := by decide +kernel
theorem dL_law__1286 : decode cL_law_ 1286 = .ok (.istore 6, 2) := by decide +kernel
theorem dL_law__1288 : decode cL_law_ 1288 = .ok (.aload_n 2, 1) := by decide +kernel
theorem dL_law__1289 : decode cL_law_ 1289 = .ok (.invokevirtual 96, 3) := by decide +kernel
theorem dL_law__1292 : decode cL_law_ 1292 = .ok (.iload 5, 2) := by decide +kernel
theorem dL_law__1294 : decode cL_law_ 1294 = .ok (.if_icmp .eq 5, 3) := by decide +kernel
theorem dL_law__1297 : decode cL_law_ 1297 = .ok (.iconst 0, 1) := by decide +kernel
theorem dL_law__1298 : decode cL_law_ 1298 = .ok (.ireturn, 1) := by decide +kernel
theorem dL_law__1299 : decode cL_law_ 1299 = .ok (.iload 5, 2) := by decide +kernel
theorem dL_law__1301 : decode cL_law_ 1301 = .ok (.ifCond .ne 15, 3) := by decide +kernel
theorem dL_law__1304 : decode cL_law_ 1304 = .ok (.aload_n 3, 1) := by decide +kernel
theorem dL_law__1305 : decode cL_law_ 1305 = .ok (.iconst 0, 1) := by decide +kernel
theorem dL_law__1306 : decode cL_law_ 1306 = .ok (.laload, 1) := by decide +kernel
theorem dL_law__1307 : decode cL_law_ 1307 = .ok (.iload 6, 2) := by decide +kernel
theorem dL_law__1309 : decode cL_law_ 1309 = .ok (.i2l, 1) := by decide +kernel
theorem dL_law__1310 : decode cL_law_ 1310 = .ok (.lcmp, 1) := by decide +kernel
theorem dL_law__1311 : decode cL_law_ 1311 = .ok (.ifCond .eq 5, 3) := by decide +kernel
theorem dL_law__1314 : decode cL_law_ 1314 = .ok (.iconst 0, 1) := by decide +kernel
theorem dL_law__1315 : decode cL_law_ 1315 = .ok (.ireturn, 1) := by decide +kernel
theorem dL_law__1316 : decode cL_law_ 1316 = .ok (.goto 266, 3) := by decide +kernel
theorem dL_law__1319 : decode cL_law_ 1319 = .ok (.aload_n 1, 1) := by decide +kernel
theorem dL_law__1320 : decode cL_law_ 1320 = .ok (.aload_n 0, 1) := by decide +kernel
theorem dL_law__1321 : decode cL_law_ 1321 = .ok (.iload 4, 2) := by decide +kernel
theorem dL_law__1323 : decode cL_law_ 1323 = .ok (.iconst 1, 1) := by decide +kernel
theorem dL_law__1324 : decode cL_law_ 1324 = .ok (.iadd, 1) := by decide +kernel
theorem dL_law__1325 : decode cL_law_ 1325 = .ok (.iaload, 1) := by decide +kernel
theorem dL_law__1326 : decode cL_law_ 1326 = .ok (.aload_n 3, 1) := by decide +kernel
theorem dL_law__1327 : decode cL_law_ 1327 = .ok (.invokestatic 156, 3) := by decide +kernel
theorem dL_law__1330 : decode cL_law_ 1330 = .ok (.istore 5, 2) := by decide +kernel
theorem dL_law__1332 : decode cL_law_ 1332 = .ok (.aload_n 2, 1) := by decide +kernel
theorem dL_law__1333 : decode cL_law_ 1333 = .ok (.aload_n 0, 1) := by decide +kernel
theorem dL_law__1334 : decode cL_law_ 1334 = .ok (.iload 4, 2) := by decide +kernel
theorem dL_law__1336 : decode cL_law_ 1336 = .ok (.iconst 1, 1) := by decide +kernel
theorem dL_law__1337 : decode cL_law_ 1337 = .ok (.iadd, 1) := by decide +kernel
theorem dL_law__1338 : decode cL_law_ 1338 = .ok (.iaload, 1) := by decide +kernel
theorem dL_law__1339 : decode cL_law_ 1339 = .ok (.invokevirtual 158, 3) := by decide +kernel
theorem dL_law__1342 : decode cL_law_ 1342 = .ok (.istore 6, 2) := by decide +kernel
theorem dL_law__1344 : decode cL_law_ 1344 = .ok (.aload_n 2, 1) := by decide +kernel
theorem dL_law__1345 : decode cL_law_ 1345 = .ok (.invokevirtual 96, 3) := by decide +kernel
theorem dL_law__1348 : decode cL_law_ 1348 = .ok (.iload 5, 2) := by decide +kernel
theorem dL_law__1350 : decode cL_law_ 1350 = .ok (.if_icmp .eq 5, 3) := by decide +kernel
theorem dL_law__1353 : decode cL_law_ 1353 = .ok (.iconst 0, 1) := by decide +kernel
theorem dL_law__1354 : decode cL_law_ 1354 = .ok (.ireturn, 1) := by decide +kernel
theorem dL_law__1355 : decode cL_law_ 1355 = .ok (.iload 5, 2) := by decide +kernel
theorem dL_law__1357 : decode cL_law_ 1357 = .ok (.ifCond .ne 15, 3) := by decide +kernel
theorem dL_law__1360 : decode cL_law_ 1360 = .ok (.aload_n 3, 1) := by decide +kernel
theorem dL_law__1361 : decode cL_law_ 1361 = .ok (.iconst 0, 1) := by decide +kernel
theorem dL_law__1362 : decode cL_law_ 1362 = .ok (.laload, 1) := by decide +kernel
theorem dL_law__1363 : decode cL_law_ 1363 = .ok (.iload 6, 2) := by decide +kernel
theorem dL_law__1365 : decode cL_law_ 1365 = .ok (.i2l, 1) := by decide +kernel
theorem dL_law__1366 : decode cL_law_ 1366 = .ok (.lcmp, 1) := by decide +kernel
theorem dL_law__1367 : decode cL_law_ 1367 = .ok (.ifCond .eq 5, 3) := by decide +kernel
theorem dL_law__1370 : decode cL_law_ 1370 = .ok (.iconst 0, 1) := by decide +kernel
theorem dL_law__1371 : decode cL_law_ 1371 = .ok (.ireturn, 1) := by decide +kernel
theorem dL_law__1372 : decode cL_law_ 1372 = .ok (.goto 210, 3) := by decide +kernel
theorem dL_law__1375 : decode cL_law_ 1375 = .ok (.aload_n 1, 1) := by decide +kernel
theorem dL_law__1376 : decode cL_law_ 1376 = .ok (.aload_n 0, 1) := by decide +kernel
theorem dL_law__1377 : decode cL_law_ 1377 = .ok (.iload 4, 2) := by decide +kernel
theorem dL_law__1379 : decode cL_law_ 1379 = .ok (.iconst 1, 1) := by decide +kernel
theorem dL_law__1380 : decode cL_law_ 1380 = .ok (.iadd, 1) := by decide +kernel
theorem dL_law__1381 : decode cL_law_ 1381 = .ok (.iaload, 1) := by decide +kernel
theorem dL_law__1382 : decode cL_law_ 1382 = .ok (.aload_n 3, 1) := by decide +kernel
theorem dL_law__1383 : decode cL_law_ 1383 = .ok (.invokestatic 159, 3) := by decide +kernel
theorem dL_law__1386 : decode cL_law_ 1386 = .ok (.istore 5, 2) := by decide +kernel
theorem dL_law__1388 : decode cL_law_ 1388 = .ok (.aload_n 2, 1) := by decide +kernel
theorem dL_law__1389 : decode cL_law_ 1389 = .ok (.aload_n 0, 1) := by decide +kernel
theorem dL_law__1390 : decode cL_law_ 1390 = .ok (.iload 4, 2) := by decide +kernel
theorem dL_law__1392 : decode cL_law_ 1392 = .ok (.iconst 1, 1) := by decide +kernel
theorem dL_law__1393 : decode cL_law_ 1393 = .ok (.iadd, 1) := by decide +kernel
theorem dL_law__1394 : decode cL_law_ 1394 = .ok (.iaload, 1) := by decide +kernel
theorem dL_law__1395 : decode cL_law_ 1395 = .ok (.invokevirtual 161, 3) := by decide +kernel
theorem dL_law__1398 : decode cL_law_ 1398 = .ok (.istore 6, 2) := by decide +kernel
theorem dL_law__1400 : decode cL_law_ 1400 = .ok (.aload_n 2, 1) := by decide +kernel
theorem dL_law__1401 : decode cL_law_ 1401 = .ok (.invokevirtual 96, 3) := by decide +kernel
theorem dL_law__1404 : decode cL_law_ 1404 = .ok (.iload 5, 2) := by decide +kernel
theorem dL_law__1406 : decode cL_law_ 1406 = .ok (.if_icmp .eq 5, 3) := by decide +kernel
theorem dL_law__1409 : decode cL_law_ 1409 = .ok (.iconst 0, 1) := by decide +kernel
theorem dL_law__1410 : decode cL_law_ 1410 = .ok (.ireturn, 1) := by decide +kernel
theorem dL_law__1411 : decode cL_law_ 1411 = .ok (.iload 5, 2) := by decide +kernel
theorem dL_law__1413 : decode cL_law_ 1413 = .ok (.ifCond .ne 15, 3) := by decide +kernel
theorem dL_law__1416 : decode cL_law_ 1416 = .ok (.aload_n 3, 1) := by decide +kernel
theorem dL_law__1417 : decode cL_law_ 1417 = .ok (.iconst 0, 1) := by decide +kernel
theorem dL_law__1418 : decode cL_law_ 1418 = .ok (.laload, 1) := by decide +kernel
theorem dL_law__1419 : decode cL_law_ 1419 = .ok (.iload 6, 2) := by decide +kernel
theorem dL_law__1421 : decode cL_law_ 1421 = .ok (.i2l, 1) := by decide +kernel
theorem dL_law__1422 : decode cL_law_ 1422 = .ok (.lcmp, 1) := by decide +kernel
theorem dL_law__1423 : decode cL_law_ 1423 = .ok (.ifCond .eq 5, 3) := by decide +kernel
theorem dL_law__1426 : decode cL_law_ 1426 = .ok (.iconst 0, 1) := by decide +kernel
theorem dL_law__1427 : decode cL_law_ 1427 = .ok (.ireturn, 1) := by decide +kernel
theorem dL_law__1428 : decode cL_law_ 1428 = .ok (.goto 154, 3) := by decide +kernel
theorem dL_law__1431 : decode cL_law_ 1431 = .ok (.aload_n 1, 1) := by decide +kernel
theorem dL_law__1432 : decode cL_law_ 1432 = .ok (.invokevirtual 162, 3) := by decide +kernel
theorem dL_law__1435 : decode cL_law_ 1435 = .ok (.aload_n 2, 1) := by decide +kernel
theorem dL_law__1436 : decode cL_law_ 1436 = .ok (.invokevirtual 165, 3) := by decide +kernel
theorem dL_law__1439 : decode cL_law_ 1439 = .ok (.if_icmp .eq 143, 3) := by decide +kernel
theorem dL_law__1442 : decode cL_law_ 1442 = .ok (.iconst 0, 1) := by decide +kernel
theorem dL_law__1443 : decode cL_law_ 1443 = .ok (.ireturn, 1) := by decide +kernel
theorem dL_law__1444 : decode cL_law_ 1444 = .ok (.aload_n 1, 1) := by decide +kernel
theorem dL_law__1445 : decode cL_law_ 1445 = .ok (.aload_n 3, 1) := by decide +kernel
theorem dL_law__1446 : decode cL_law_ 1446 = .ok (.invokestatic 166, 3) := by decide +kernel
theorem dL_law__1449 : decode cL_law_ 1449 = .ok (.istore 5, 2) := by decide +kernel
theorem dL_law__1451 : decode cL_law_ 1451 = .ok (.aload_n 2, 1) := by decide +kernel
theorem dL_law__1452 : decode cL_law_ 1452 = .ok (.invokevirtual 169, 3) := by decide +kernel
theorem dL_law__1455 : decode cL_law_ 1455 = .ok (.istore 6, 2) := by decide +kernel
theorem dL_law__1457 : decode cL_law_ 1457 = .ok (.aload_n 2, 1) := by decide +kernel
theorem dL_law__1458 : decode cL_law_ 1458 = .ok (.invokevirtual 96, 3) := by decide +kernel
theorem dL_law__1461 : decode cL_law_ 1461 = .ok (.iload 5, 2) := by decide +kernel
theorem dL_law__1463 : decode cL_law_ 1463 = .ok (.if_icmp .eq 5, 3) := by decide +kernel
theorem dL_law__1466 : decode cL_law_ 1466 = .ok (.iconst 0, 1) := by decide +kernel
theorem dL_law__1467 : decode cL_law_ 1467 = .ok (.ireturn, 1) := by decide +kernel
theorem dL_law__1468 : decode cL_law_ 1468 = .ok (.iload 5, 2) := by decide +kernel
theorem dL_law__1470 : decode cL_law_ 1470 = .ok (.ifCond .ne 15, 3) := by decide +kernel
theorem dL_law__1473 : decode cL_law_ 1473 = .ok (.aload_n 3, 1) := by decide +kernel
theorem dL_law__1474 : decode cL_law_ 1474 = .ok (.iconst 0, 1) := by decide +kernel
theorem dL_law__1475 : decode cL_law_ 1475 = .ok (.laload, 1) := by decide +kernel
theorem dL_law__1476 : decode cL_law_ 1476 = .ok (.iload 6, 2) := by decide +kernel
theorem dL_law__1478 : decode cL_law_ 1478 = .ok (.i2l, 1) := by decide +kernel
theorem dL_law__1479 : decode cL_law_ 1479 = .ok (.lcmp, 1) := by decide +kernel
theorem dL_law__1480 : decode cL_law_ 1480 = .ok (.ifCond .eq 5, 3) := by decide +kernel
theorem dL_law__1483 : decode cL_law_ 1483 = .ok (.iconst 0, 1) := by decide +kernel
theorem dL_law__1484 : decode cL_law_ 1484 = .ok (.ireturn, 1) := by decide +kernel
theorem dL_law__1485 : decode cL_law_ 1485 = .ok (.goto 97, 3) := by decide +kernel
theorem dL_law__1488 : decode cL_law_ 1488 = .ok (.aload_n 1, 1) := by decide +kernel
theorem dL_law__1489 : decode cL_law_ 1489 = .ok (.invokevirtual 170, 3) := by decide +kernel
theorem dL_law__1492 : decode cL_law_ 1492 = .ok (.aload_n 2, 1) := by decide +kernel
theorem dL_law__1493 : decode cL_law_ 1493 = .ok (.invokevirtual 173, 3) := by decide +kernel
theorem dL_law__1496 : decode cL_law_ 1496 = .ok (.if_icmp .eq 86, 3) := by decide +kernel
theorem dL_law__1499 : decode cL_law_ 1499 = .ok (.iconst 0, 1) := by decide +kernel
theorem dL_law__1500 : decode cL_law_ 1500 = .ok (.ireturn, 1) := by decide +kernel
theorem dL_law__1501 : decode cL_law_ 1501 = .ok (.aload_n 1, 1) := by decide +kernel
theorem dL_law__1502 : decode cL_law_ 1502 = .ok (.invokevirtual 174, 3) := by decide +kernel
theorem dL_law__1505 : decode cL_law_ 1505 = .ok (.aload_n 2, 1) := by decide +kernel
theorem dL_law__1506 : decode cL_law_ 1506 = .ok (.invokevirtual 177, 3) := by decide +kernel
theorem dL_law__1509 : decode cL_law_ 1509 = .ok (.if_icmp .eq 73, 3) := by decide +kernel
theorem dL_law__1512 : decode cL_law_ 1512 = .ok (.iconst 0, 1) := by decide +kernel
theorem dL_law__1513 : decode cL_law_ 1513 = .ok (.ireturn, 1) := by decide +kernel
theorem dL_law__1514 : decode cL_law_ 1514 = .ok (.aload_n 1, 1) := by decide +kernel
theorem dL_law__1515 : decode cL_law_ 1515 = .ok (.aload_n 0, 1) := by decide +kernel
theorem dL_law__1516 : decode cL_law_ 1516 = .ok (.iload 4, 2) := by decide +kernel
theorem dL_law__1518 : decode cL_law_ 1518 = .ok (.iconst 1, 1) := by decide +kernel
theorem dL_law__1519 : decode cL_law_ 1519 = .ok (.iadd, 1) := by decide +kernel
theorem dL_law__1520 : decode cL_law_ 1520 = .ok (.iaload, 1) := by decide +kernel
theorem dL_law__1521 : decode cL_law_ 1521 = .ok (.aload_n 0, 1) := by decide +kernel
theorem dL_law__1522 : decode cL_law_ 1522 = .ok (.iload 4, 2) := by decide +kernel
theorem dL_law__1524 : decode cL_law_ 1524 = .ok (.iconst 2, 1) := by decide +kernel
theorem dL_law__1525 : decode cL_law_ 1525 = .ok (.iadd, 1) := by decide +kernel
theorem dL_law__1526 : decode cL_law_ 1526 = .ok (.iaload, 1) := by decide +kernel
theorem dL_law__1527 : decode cL_law_ 1527 = .ok (.aload_n 3, 1) := by decide +kernel
theorem dL_law__1528 : decode cL_law_ 1528 = .ok (.invokestatic 178, 3) := by decide +kernel
theorem dL_law__1531 : decode cL_law_ 1531 = .ok (.istore 5, 2) := by decide +kernel
theorem dL_law__1533 : decode cL_law_ 1533 = .ok (.aload_n 2, 1) := by decide +kernel
theorem dL_law__1534 : decode cL_law_ 1534 = .ok (.aload_n 0, 1) := by decide +kernel
theorem dL_law__1535 : decode cL_law_ 1535 = .ok (.iload 4, 2) := by decide +kernel
theorem dL_law__1537 : decode cL_law_ 1537 = .ok (.iconst 1, 1) := by decide +kernel
theorem dL_law__1538 : decode cL_law_ 1538 = .ok (.iadd, 1) := by decide +kernel
theorem dL_law__1539 : decode cL_law_ 1539 = .ok (.iaload, 1) := by decide +kernel
theorem dL_law__1540 : decode cL_law_ 1540 = .ok (.aload_n 0, 1) := by decide +kernel
theorem dL_law__1541 : decode cL_law_ 1541 = .ok (.iload 4, 2) := by decide +kernel
theorem dL_law__1543 : decode cL_law_ 1543 = .ok (.iconst 2, 1) := by decide +kernel
theorem dL_law__1544 : decode cL_law_ 1544 = .ok (.iadd, 1) := by decide +kernel
theorem dL_law__1545 : decode cL_law_ 1545 = .ok (.iaload, 1) := by decide +kernel
theorem dL_law__1546 : decode cL_law_ 1546 = .ok (.invokevirtual 180, 3) := by decide +kernel
theorem dL_law__1549 : decode cL_law_ 1549 = .ok (.istore 6, 2) := by decide +kernel
theorem dL_law__1551 : decode cL_law_ 1551 = .ok (.aload_n 2, 1) := by decide +kernel
theorem dL_law__1552 : decode cL_law_ 1552 = .ok (.invokevirtual 96, 3) := by decide +kernel
theorem dL_law__1555 : decode cL_law_ 1555 = .ok (.iload 5, 2) := by decide +kernel
theorem dL_law__1557 : decode cL_law_ 1557 = .ok (.if_icmp .eq 5, 3) := by decide +kernel
theorem dL_law__1560 : decode cL_law_ 1560 = .ok (.iconst 0, 1) := by decide +kernel
theorem dL_law__1561 : decode cL_law_ 1561 = .ok (.ireturn, 1) := by decide +kernel
theorem dL_law__1562 : decode cL_law_ 1562 = .ok (.iload 5, 2) := by decide +kernel
theorem dL_law__1564 : decode cL_law_ 1564 = .ok (.ifCond .ne 15, 3) := by decide +kernel
theorem dL_law__1567 : decode cL_law_ 1567 = .ok (.aload_n 3, 1) := by decide +kernel
theorem dL_law__1568 : decode cL_law_ 1568 = .ok (.iconst 0, 1) := by decide +kernel
theorem dL_law__1569 : decode cL_law_ 1569 = .ok (.laload, 1) := by decide +kernel
theorem dL_law__1570 : decode cL_law_ 1570 = .ok (.iload 6, 2) := by decide +kernel
theorem dL_law__1572 : decode cL_law_ 1572 = .ok (.i2l, 1) := by decide +kernel
theorem dL_law__1573 : decode cL_law_ 1573 = .ok (.lcmp, 1) := by decide +kernel
theorem dL_law__1574 : decode cL_law_ 1574 = .ok (.ifCond .eq 5, 3) := by decide +kernel
theorem dL_law__1577 : decode cL_law_ 1577 = .ok (.iconst 0, 1) := by decide +kernel
theorem dL_law__1578 : decode cL_law_ 1578 = .ok (.ireturn, 1) := by decide +kernel
theorem dL_law__1579 : decode cL_law_ 1579 = .ok (.goto 3, 3) := by decide +kernel
theorem dL_law__1582 : decode cL_law_ 1582 = .ok (.iinc 4 5, 3) := by decide +kernel
theorem dL_law__1585 : decode cL_law_ 1585 = .ok (.goto (-1562), 3) := by decide +kernel
theorem dL_law__1588 : decode cL_law_ 1588 = .ok (.iconst 1, 1) := by decide +kernel
theorem dL_law__1589 : decode cL_law_ 1589 = .ok (.ireturn, 1) := by decide +kernel
