theorem dL_cell_0 : decode cL_cell 0 = .ok (.iload_n 1, 1) := by decide +kernel
theorem dL_cell_1 : decode cL_cell 1 = .ok (.aload_n 0, 1) := by decide +kernel
theorem dL_cell_2 : decode cL_cell 2 = .ok (.arraylength, 1) := by decide +kernel
theorem dL_cell_3 : decode cL_cell 3 = .ok (.if_icmp .ge 9, 3) := by decide +kernel
theorem dL_cell_6 : decode cL_cell 6 = .ok (.aload_n 0, 1) := by decide +kernel
theorem dL_cell_7 : decode cL_cell 7 = .ok (.iload_n 1, 1) := by decide +kernel
theorem dL_cell_8 : decode cL_cell 8 = .ok (.iaload, 1) := by decide +kernel
theorem dL_cell_9 : decode cL_cell 9 = .ok (.goto 9, 3) := by decide +kernel
theorem dL_cell_12 : decode cL_cell 12 = .ok (.ldc 7, 2) := by decide +kernel
theorem dL_cell_14 : decode cL_cell 14 = .ok (.iload_n 1, 1) := by decide +kernel
theorem dL_cell_15 : decode cL_cell 15 = .ok (.iconst 3, 1) := by decide +kernel
theorem dL_cell_16 : decode cL_cell 16 = .ok (.iadd, 1) := by decide +kernel
theorem dL_cell_17 : decode cL_cell 17 = .ok (.imul, 1) := by decide +kernel
theorem dL_cell_18 : decode cL_cell 18 = .ok (.ireturn, 1) := by decide +kernel
theorem dL_low_0 : decode cL_low 0 = .ok (.iload_n 0, 1) := by decide +kernel
theorem dL_low_1 : decode cL_low 1 = .ok (.iconst 1, 1) := by decide +kernel
theorem dL_low_2 : decode cL_low 2 = .ok (.iushr, 1) := by decide +kernel
theorem dL_low_3 : decode cL_low 3 = .ok (.iload_n 1, 1) := by decide +kernel
theorem dL_low_4 : decode cL_low 4 = .ok (.irem, 1) := by decide +kernel
theorem dL_low_5 : decode cL_low 5 = .ok (.ireturn, 1) := by decide +kernel
theorem dL_addFeature_0 : decode cL_addFeature 0 = .ok (.aload_n 0, 1) := by decide +kernel
theorem dL_addFeature_1 : decode cL_addFeature 1 = .ok (.iload_n 1, 1) := by decide +kernel
theorem dL_addFeature_2 : decode cL_addFeature 2 = .ok (.invokevirtual 8, 3) := by decide +kernel
theorem dL_addFeature_5 : decode cL_addFeature 5 = .ok (.istore_n 2, 1) := by decide +kernel
theorem dL_addFeature_6 : decode cL_addFeature 6 = .ok (.goto 13, 3) := by decide +kernel
theorem dL_addFeature_9 : decode cL_addFeature 9 = .ok (.astore_n 3, 1) := by decide +kernel
theorem dL_addFeature_10 : decode cL_addFeature 10 = .ok (.sipush (-7002), 3) := by decide +kernel
theorem dL_addFeature_13 : decode cL_addFeature 13 = .ok (.ireturn, 1) := by decide +kernel
theorem dL_addFeature_14 : decode cL_addFeature 14 = .ok (.astore_n 3, 1) := by decide +kernel
theorem dL_addFeature_15 : decode cL_addFeature 15 = .ok (.sipush (-7003), 3) := by decide +kernel
theorem dL_addFeature_18 : decode cL_addFeature 18 = .ok (.ireturn, 1) := by decide +kernel
theorem dL_addFeature_19 : decode cL_addFeature 19 = .ok (.iload_n 2, 1) := by decide +kernel
theorem dL_addFeature_20 : decode cL_addFeature 20 = .ok (.ireturn, 1) := by decide +kernel
theorem dL_addRule_0 : decode cL_addRule 0 = .ok (.aload_n 0, 1) := by decide +kernel
theorem dL_addRule_1 : decode cL_addRule 1 = .ok (.iload_n 1, 1) := by decide +kernel
theorem dL_addRule_2 : decode cL_addRule 2 = .ok (.iload_n 2, 1) := by decide +kernel
theorem dL_addRule_3 : decode cL_addRule 3 = .ok (.iload_n 3, 1) := by decide +kernel
theorem dL_addRule_4 : decode cL_addRule 4 = .ok (.iload 4, 2) := by decide +kernel
theorem dL_addRule_6 : decode cL_addRule 6 = .ok (.iload 5, 2) := by decide +kernel
theorem dL_addRule_8 : decode cL_addRule 8 = .ok (.invokevirtual 18, 3) := by decide +kernel
theorem dL_addRule_11 : decode cL_addRule 11 = .ok (.istore 6, 2) := by decide +kernel
theorem dL_addRule_13 : decode cL_addRule 13 = .ok (.goto 21, 3) := by decide +kernel
theorem dL_addRule_16 : decode cL_addRule 16 = .ok (.astore 7, 2) := by decide +kernel
theorem dL_addRule_18 : decode cL_addRule 18 = .ok (.sipush (-7001), 3) := by decide +kernel
theorem dL_addRule_21 : decode cL_addRule 21 = .ok (.ireturn, 1) := by decide +kernel
theorem dL_addRule_22 : decode cL_addRule 22 = .ok (.astore 7, 2) := by decide +kernel
theorem dL_addRule_24 : decode cL_addRule 24 = .ok (.sipush (-7002), 3) := by decide +kernel
theorem dL_addRule_27 : decode cL_addRule 27 = .ok (.ireturn, 1) := by decide +kernel
theorem dL_addRule_28 : decode cL_addRule 28 = .ok (.astore 7, 2) := by decide +kernel
theorem dL_addRule_30 : decode cL_addRule 30 = .ok (.sipush (-7003), 3) := by decide +kernel
theorem dL_addRule_33 : decode cL_addRule 33 = .ok (.ireturn, 1) := by decide +kernel
theorem dL_addRule_34 : decode cL_addRule 34 = .ok (.iload 6, 2) := by decide +kernel
theorem dL_addRule_36 : decode cL_addRule 36 = .ok (.ireturn, 1) := by decide +kernel
theorem dL_switchRule_0 : decode cL_switchRule 0 = .ok (.aload_n 0, 1) := by decide +kernel
theorem dL_switchRule_1 : decode cL_switchRule 1 = .ok (.iload_n 1, 1) := by decide +kernel
theorem dL_switchRule_2 : decode cL_switchRule 2 = .ok (.iload_n 2, 1) := by decide +kernel
theorem dL_switchRule_3 : decode cL_switchRule 3 = .ok (.invokevirtual 24, 3) := by decide +kernel
theorem dL_switchRule_6 : decode cL_switchRule 6 = .ok (.istore_n 3, 1) := by decide +kernel
theorem dL_switchRule_7 : decode cL_switchRule 7 = .ok (.goto 15, 3) := by decide +kernel
theorem dL_switchRule_10 : decode cL_switchRule 10 = .ok (.astore 4, 2) := by decide +kernel
theorem dL_switchRule_12 : decode cL_switchRule 12 = .ok (.sipush (-7001), 3) := by decide +kernel
theorem dL_switchRule_15 : decode cL_switchRule 15 = .ok (.ireturn, 1) := by decide +kernel
theorem dL_switchRule_16 : decode cL_switchRule 16 = .ok (.astore 4, 2) := by decide +kernel
theorem dL_switchRule_18 : decode cL_switchRule 18 = .ok (.sipush (-7003), 3) := by decide +kernel
theorem dL_switchRule_21 : decode cL_switchRule 21 = .ok (.ireturn, 1) := by decide +kernel
theorem dL_switchRule_22 : decode cL_switchRule 22 = .ok (.iload_n 3, 1) := by decide +kernel
theorem dL_switchRule_23 : decode cL_switchRule 23 = .ok (.ifCond .eq 7, 3) := by decide +kernel
theorem dL_switchRule_26 : decode cL_switchRule 26 = .ok (.iconst 1, 1) := by decide +kernel
theorem dL_switchRule_27 : decode cL_switchRule 27 = .ok (.goto 4, 3) := by decide +kernel
theorem dL_switchRule_30 : decode cL_switchRule 30 = .ok (.iconst 0, 1) := by decide +kernel
theorem dL_switchRule_31 : decode cL_switchRule 31 = .ok (.ireturn, 1) := by decide +kernel
theorem dL_setPrice_0 : decode cL_setPrice 0 = .ok (.aload_n 0, 1) := by decide +kernel
theorem dL_setPrice_1 : decode cL_setPrice 1 = .ok (.iload_n 1, 1) := by decide +kernel
theorem dL_setPrice_2 : decode cL_setPrice 2 = .ok (.iload_n 2, 1) := by decide +kernel
theorem dL_setPrice_3 : decode cL_setPrice 3 = .ok (.iload_n 3, 1) := by decide +kernel
theorem dL_setPrice_4 : decode cL_setPrice 4 = .ok (.invokevirtual 28, 3) := by decide +kernel
theorem dL_setPrice_7 : decode cL_setPrice 7 = .ok (.istore 4, 2) := by decide +kernel
theorem dL_setPrice_9 : decode cL_setPrice 9 = .ok (.goto 15, 3) := by decide +kernel
theorem dL_setPrice_12 : decode cL_setPrice 12 = .ok (.astore 5, 2) := by decide +kernel
theorem dL_setPrice_14 : decode cL_setPrice 14 = .ok (.sipush (-7001), 3) := by decide +kernel
theorem dL_setPrice_17 : decode cL_setPrice 17 = .ok (.ireturn, 1) := by decide +kernel
theorem dL_setPrice_18 : decode cL_setPrice 18 = .ok (.astore 5, 2) := by decide +kernel
theorem dL_setPrice_20 : decode cL_setPrice 20 = .ok (.sipush (-7002), 3) := by decide +kernel
theorem dL_setPrice_23 : decode cL_setPrice 23 = .ok (.ireturn, 1) := by decide +kernel
theorem dL_setPrice_24 : decode cL_setPrice 24 = .ok (.iload 4, 2) := by decide +kernel
theorem dL_setPrice_26 : decode cL_setPrice 26 = .ok (.ireturn, 1) := by decide +kernel
theorem dL_addSurcharge_0 : decode cL_addSurcharge 0 = .ok (.aload_n 0, 1) := by decide +kernel
theorem dL_addSurcharge_1 : decode cL_addSurcharge 1 = .ok (.iload_n 1, 1) := by decide +kernel
theorem dL_addSurcharge_2 : decode cL_addSurcharge 2 = .ok (.iload_n 2, 1) := by decide +kernel
theorem dL_addSurcharge_3 : decode cL_addSurcharge 3 = .ok (.iload_n 3, 1) := by decide +kernel
theorem dL_addSurcharge_4 : decode cL_addSurcharge 4 = .ok (.iload 4, 2) := by decide +kernel
theorem dL_addSurcharge_6 : decode cL_addSurcharge 6 = .ok (.iload 5, 2) := by decide +kernel
theorem dL_addSurcharge_8 : decode cL_addSurcharge 8 = .ok (.invokevirtual 32, 3) := by decide +kernel
theorem dL_addSurcharge_11 : decode cL_addSurcharge 11 = .ok (.istore 6, 2) := by decide +kernel
theorem dL_addSurcharge_13 : decode cL_addSurcharge 13 = .ok (.goto 21, 3) := by decide +kernel
theorem dL_addSurcharge_16 : decode cL_addSurcharge 16 = .ok (.astore 7, 2) := by decide +kernel
theorem dL_addSurcharge_18 : decode cL_addSurcharge 18 = .ok (.sipush (-7001), 3) := by decide +kernel
theorem dL_addSurcharge_21 : decode cL_addSurcharge 21 = .ok (.ireturn, 1) := by decide +kernel
theorem dL_addSurcharge_22 : decode cL_addSurcharge 22 = .ok (.astore 7, 2) := by decide +kernel
theorem dL_addSurcharge_24 : decode cL_addSurcharge 24 = .ok (.sipush (-7002), 3) := by decide +kernel
theorem dL_addSurcharge_27 : decode cL_addSurcharge 27 = .ok (.ireturn, 1) := by decide +kernel
theorem dL_addSurcharge_28 : decode cL_addSurcharge 28 = .ok (.astore 7, 2) := by decide +kernel
theorem dL_addSurcharge_30 : decode cL_addSurcharge 30 = .ok (.sipush (-7003), 3) := by decide +kernel
theorem dL_addSurcharge_33 : decode cL_addSurcharge 33 = .ok (.ireturn, 1) := by decide +kernel
theorem dL_addSurcharge_34 : decode cL_addSurcharge 34 = .ok (.iload 6, 2) := by decide +kernel
theorem dL_addSurcharge_36 : decode cL_addSurcharge 36 = .ok (.ireturn, 1) := by decide +kernel
theorem dL_addDefault_0 : decode cL_addDefault 0 = .ok (.aload_n 0, 1) := by decide +kernel
theorem dL_addDefault_1 : decode cL_addDefault 1 = .ok (.iload_n 1, 1) := by decide +kernel
theorem dL_addDefault_2 : decode cL_addDefault 2 = .ok (.iload_n 2, 1) := by decide +kernel
theorem dL_addDefault_3 : decode cL_addDefault 3 = .ok (.invokevirtual 35, 3) := by decide +kernel
theorem dL_addDefault_6 : decode cL_addDefault 6 = .ok (.istore_n 3, 1) := by decide +kernel
theorem dL_addDefault_7 : decode cL_addDefault 7 = .ok (.goto 15, 3) := by decide +kernel
theorem dL_addDefault_10 : decode cL_addDefault 10 = .ok (.astore 4, 2) := by decide +kernel
theorem dL_addDefault_12 : decode cL_addDefault 12 = .ok (.sipush (-7001), 3) := by decide +kernel
theorem dL_addDefault_15 : decode cL_addDefault 15 = .ok (.ireturn, 1) := by decide +kernel
theorem dL_addDefault_16 : decode cL_addDefault 16 = .ok (.astore 4, 2) := by decide +kernel
theorem dL_addDefault_18 : decode cL_addDefault 18 = .ok (.sipush (-7003), 3) := by decide +kernel
theorem dL_addDefault_21 : decode cL_addDefault 21 = .ok (.ireturn, 1) := by decide +kernel
theorem dL_addDefault_22 : decode cL_addDefault 22 = .ok (.iload_n 3, 1) := by decide +kernel
theorem dL_addDefault_23 : decode cL_addDefault 23 = .ok (.ireturn, 1) := by decide +kernel
theorem dL_choose_0 : decode cL_choose 0 = .ok (.aload_n 0, 1) := by decide +kernel
theorem dL_choose_1 : decode cL_choose 1 = .ok (.iload_n 1, 1) := by decide +kernel
theorem dL_choose_2 : decode cL_choose 2 = .ok (.iload_n 2, 1) := by decide +kernel
theorem dL_choose_3 : decode cL_choose 3 = .ok (.invokevirtual 39, 3) := by decide +kernel
theorem dL_choose_6 : decode cL_choose 6 = .ok (.istore_n 3, 1) := by decide +kernel
theorem dL_choose_7 : decode cL_choose 7 = .ok (.goto 15, 3) := by decide +kernel
theorem dL_choose_10 : decode cL_choose 10 = .ok (.astore 4, 2) := by decide +kernel
theorem dL_choose_12 : decode cL_choose 12 = .ok (.sipush (-7001), 3) := by decide +kernel
theorem dL_choose_15 : decode cL_choose 15 = .ok (.ireturn, 1) := by decide +kernel
theorem dL_choose_16 : decode cL_choose 16 = .ok (.astore 4, 2) := by decide +kernel
theorem dL_choose_18 : decode cL_choose 18 = .ok (.sipush (-7003), 3) := by decide +kernel
theorem dL_choose_21 : decode cL_choose 21 = .ok (.ireturn, 1) := by decide +kernel
theorem dL_choose_22 : decode cL_choose 22 = .ok (.iload_n 3, 1) := by decide +kernel
theorem dL_choose_23 : decode cL_choose 23 = .ok (.ireturn, 1) := by decide +kernel
theorem dL_withdraw_0 : decode cL_withdraw 0 = .ok (.aload_n 0, 1) := by decide +kernel
theorem dL_withdraw_1 : decode cL_withdraw 1 = .ok (.iload_n 1, 1) := by decide +kernel
theorem dL_withdraw_2 : decode cL_withdraw 2 = .ok (.invokevirtual 42, 3) := by decide +kernel
theorem dL_withdraw_5 : decode cL_withdraw 5 = .ok (.istore_n 2, 1) := by decide +kernel
theorem dL_withdraw_6 : decode cL_withdraw 6 = .ok (.goto 13, 3) := by decide +kernel
theorem dL_withdraw_9 : decode cL_withdraw 9 = .ok (.astore_n 3, 1) := by decide +kernel
theorem dL_withdraw_10 : decode cL_withdraw 10 = .ok (.sipush (-7001), 3) := by decide +kernel
theorem dL_withdraw_13 : decode cL_withdraw 13 = .ok (.ireturn, 1) := by decide +kernel
theorem dL_withdraw_14 : decode cL_withdraw 14 = .ok (.astore_n 3, 1) := by decide +kernel
theorem dL_withdraw_15 : decode cL_withdraw 15 = .ok (.sipush (-7003), 3) := by decide +kernel
theorem dL_withdraw_18 : decode cL_withdraw 18 = .ok (.ireturn, 1) := by decide +kernel
theorem dL_withdraw_19 : decode cL_withdraw 19 = .ok (.iload_n 2, 1) := by decide +kernel
theorem dL_withdraw_20 : decode cL_withdraw 20 = .ok (.ireturn, 1) := by decide +kernel
theorem dL_force_0 : decode cL_force 0 = .ok (.aload_n 0, 1) := by decide +kernel
theorem dL_force_1 : decode cL_force 1 = .ok (.iload_n 1, 1) := by decide +kernel
theorem dL_force_2 : decode cL_force 2 = .ok (.iload_n 2, 1) := by decide +kernel
theorem dL_force_3 : decode cL_force 3 = .ok (.invokevirtual 45, 3) := by decide +kernel
theorem dL_force_6 : decode cL_force 6 = .ok (.istore_n 3, 1) := by decide +kernel
theorem dL_force_7 : decode cL_force 7 = .ok (.goto 15, 3) := by decide +kernel
theorem dL_force_10 : decode cL_force 10 = .ok (.astore 4, 2) := by decide +kernel
theorem dL_force_12 : decode cL_force 12 = .ok (.sipush (-7001), 3) := by decide +kernel
theorem dL_force_15 : decode cL_force 15 = .ok (.ireturn, 1) := by decide +kernel
theorem dL_force_16 : decode cL_force 16 = .ok (.astore 4, 2) := by decide +kernel
theorem dL_force_18 : decode cL_force 18 = .ok (.sipush (-7003), 3) := by decide +kernel
theorem dL_force_21 : decode cL_force 21 = .ok (.ireturn, 1) := by decide +kernel
theorem dL_force_22 : decode cL_force 22 = .ok (.iload_n 3, 1) := by decide +kernel
theorem dL_force_23 : decode cL_force 23 = .ok (.ireturn, 1) := by decide +kernel
theorem dL_why_0 : decode cL_why 0 = .ok (.iload_n 1, 1) := by decide +kernel
theorem dL_why_1 : decode cL_why 1 = .ok (.ifCond .eq 12, 3) := by decide +kernel
theorem dL_why_4 : decode cL_why 4 = .ok (.aload_n 0, 1) := by decide +kernel
theorem dL_why_5 : decode cL_why 5 = .ok (.iload_n 2, 1) := by decide +kernel
theorem dL_why_6 : decode cL_why 6 = .ok (.iload_n 3, 1) := by decide +kernel
theorem dL_why_7 : decode cL_why 7 = .ok (.invokevirtual 48, 3) := by decide +kernel
theorem dL_why_10 : decode cL_why 10 = .ok (.goto 9, 3) := by decide +kernel
theorem dL_why_13 : decode cL_why 13 = .ok (.aload_n 0, 1) := by decide +kernel
theorem dL_why_14 : decode cL_why 14 = .ok (.iload_n 2, 1) := by decide +kernel
theorem dL_why_15 : decode cL_why 15 = .ok (.iload_n 3, 1) := by decide +kernel
theorem dL_why_16 : decode cL_why 16 = .ok (.invokevirtual 51, 3) := by decide +kernel
theorem dL_why_19 : decode cL_why 19 = .ok (.istore 4, 2) := by decide +kernel
theorem dL_why_21 : decode cL_why 21 = .ok (.goto 15, 3) := by decide +kernel
theorem dL_why_24 : decode cL_why 24 = .ok (.astore 5, 2) := by decide +kernel
theorem dL_why_26 : decode cL_why 26 = .ok (.sipush (-7001), 3) := by decide +kernel
theorem dL_why_29 : decode cL_why 29 = .ok (.ireturn, 1) := by decide +kernel
theorem dL_why_30 : decode cL_why 30 = .ok (.astore 5, 2) := by decide +kernel
theorem dL_why_32 : decode cL_why 32 = .ok (.sipush (-7003), 3) := by decide +kernel
theorem dL_why_35 : decode cL_why 35 = .ok (.ireturn, 1) := by decide +kernel
theorem dL_why_36 : decode cL_why 36 = .ok (.iload 4, 2) := by decide +kernel
theorem dL_why_38 : decode cL_why 38 = .ok (.ireturn, 1) := by decide +kernel
theorem dL_price_0 : decode cL_price 0 = .ok (.aload_n 0, 1) := by decide +kernel
theorem dL_price_1 : decode cL_price 1 = .ok (.invokevirtual 54, 3) := by decide +kernel
theorem dL_price_4 : decode cL_price 4 = .ok (.istore_n 1, 1) := by decide +kernel
theorem dL_price_5 : decode cL_price 5 = .ok (.goto 8, 3) := by decide +kernel
theorem dL_price_8 : decode cL_price 8 = .ok (.astore_n 2, 1) := by decide +kernel
theorem dL_price_9 : decode cL_price 9 = .ok (.sipush (-9999), 3) := by decide +kernel
theorem dL_price_12 : decode cL_price 12 = .ok (.ireturn, 1) := by decide +kernel
theorem dL_price_13 : decode cL_price 13 = .ok (.iload_n 1, 1) := by decide +kernel
theorem dL_price_14 : decode cL_price 14 = .ok (.ireturn, 1) := by decide +kernel
theorem dL_leastWith_0 : decode cL_leastWith 0 = .ok (.aload_n 0, 1) := by decide +kernel
theorem dL_leastWith_1 : decode cL_leastWith 1 = .ok (.iload_n 1, 1) := by decide +kernel
theorem dL_leastWith_2 : decode cL_leastWith 2 = .ok (.iload_n 2, 1) := by decide +kernel
theorem dL_leastWith_3 : decode cL_leastWith 3 = .ok (.invokevirtual 58, 3) := by decide +kernel
theorem dL_leastWith_6 : decode cL_leastWith 6 = .ok (.istore_n 3, 1) := by decide +kernel
theorem dL_leastWith_7 : decode cL_leastWith 7 = .ok (.goto 15, 3) := by decide +kernel
theorem dL_leastWith_10 : decode cL_leastWith 10 = .ok (.astore 4, 2) := by decide +kernel
theorem dL_leastWith_12 : decode cL_leastWith 12 = .ok (.sipush (-9998), 3) := by decide +kernel
theorem dL_leastWith_15 : decode cL_leastWith 15 = .ok (.ireturn, 1) := by decide +kernel
theorem dL_leastWith_16 : decode cL_leastWith 16 = .ok (.astore 4, 2) := by decide +kernel
theorem dL_leastWith_18 : decode cL_leastWith 18 = .ok (.sipush (-9999), 3) := by decide +kernel
theorem dL_leastWith_21 : decode cL_leastWith 21 = .ok (.ireturn, 1) := by decide +kernel
theorem dL_leastWith_22 : decode cL_leastWith 22 = .ok (.iload_n 3, 1) := by decide +kernel
theorem dL_leastWith_23 : decode cL_leastWith 23 = .ok (.ireturn, 1) := by decide +kernel
theorem dL_offered_0 : decode cL_offered 0 = .ok (.aload_n 0, 1) := by decide +kernel
theorem dL_offered_1 : decode cL_offered 1 = .ok (.iload_n 1, 1) := by decide +kernel
theorem dL_offered_2 : decode cL_offered 2 = .ok (.invokevirtual 61, 3) := by decide +kernel
theorem dL_offered_5 : decode cL_offered 5 = .ok (.istore_n 2, 1) := by decide +kernel
theorem dL_offered_6 : decode cL_offered 6 = .ok (.goto 8, 3) := by decide +kernel
theorem dL_offered_9 : decode cL_offered 9 = .ok (.astore_n 3, 1) := by decide +kernel
theorem dL_offered_10 : decode cL_offered 10 = .ok (.sipush (-7001), 3) := by decide +kernel
theorem dL_offered_13 : decode cL_offered 13 = .ok (.ireturn, 1) := by decide +kernel
theorem dL_offered_14 : decode cL_offered 14 = .ok (.iload_n 2, 1) := by decide +kernel
theorem dL_offered_15 : decode cL_offered 15 = .ok (.ireturn, 1) := by decide +kernel
theorem dL_digit_0 : decode cL_digit 0 = .ok (.iload_n 2, 1) := by decide +kernel
theorem dL_digit_1 : decode cL_digit 1 = .ok (.istore 4, 2) := by decide +kernel
theorem dL_digit_3 : decode cL_digit 3 = .ok (.aload_n 1, 1) := by decide +kernel
theorem dL_digit_4 : decode cL_digit 4 = .ok (.iconst 0, 1) := by decide +kernel
theorem dL_digit_5 : decode cL_digit 5 = .ok (.iaload, 1) := by decide +kernel
theorem dL_digit_6 : decode cL_digit 6 = .ok (.iconst 1, 1) := by decide +kernel
theorem dL_digit_7 : decode cL_digit 7 = .ok (.isub, 1) := by decide +kernel
theorem dL_digit_8 : decode cL_digit 8 = .ok (.istore 5, 2) := by decide +kernel
theorem dL_digit_10 : decode cL_digit 10 = .ok (.iload 5, 2) := by decide +kernel
theorem dL_digit_12 : decode cL_digit 12 = .ok (.iload_n 3, 1) := by decide +kernel
theorem dL_digit_13 : decode cL_digit 13 = .ok (.if_icmp .le 18, 3) := by decide +kernel
theorem dL_digit_16 : decode cL_digit 16 = .ok (.iload 4, 2) := by decide +kernel
theorem dL_digit_18 : decode cL_digit 18 = .ok (.aload_n 0, 1) := by decide +kernel
theorem dL_digit_19 : decode cL_digit 19 = .ok (.iload 5, 2) := by decide +kernel
theorem dL_digit_21 : decode cL_digit 21 = .ok (.iaload, 1) := by decide +kernel
theorem dL_digit_22 : decode cL_digit 22 = .ok (.idiv, 1) := by decide +kernel
theorem dL_digit_23 : decode cL_digit 23 = .ok (.istore 4, 2) := by decide +kernel
theorem dL_digit_25 : decode cL_digit 25 = .ok (.iinc 5 (-1), 3) := by decide +kernel
theorem dL_digit_28 : decode cL_digit 28 = .ok (.goto (-18), 3) := by decide +kernel
theorem dL_digit_31 : decode cL_digit 31 = .ok (.iload 4, 2) := by decide +kernel
theorem dL_digit_33 : decode cL_digit 33 = .ok (.aload_n 0, 1) := by decide +kernel
theorem dL_digit_34 : decode cL_digit 34 = .ok (.iload_n 3, 1) := by decide +kernel
theorem dL_digit_35 : decode cL_digit 35 = .ok (.iaload, 1) := by decide +kernel
theorem dL_digit_36 : decode cL_digit 36 = .ok (.irem, 1) := by decide +kernel
theorem dL_digit_37 : decode cL_digit 37 = .ok (.ireturn, 1) := by decide +kernel
theorem dL_isKept_0 : decode cL_isKept 0 = .ok (.iload_n 1, 1) := by decide +kernel
theorem dL_isKept_1 : decode cL_isKept 1 = .ok (.iload_n 0, 1) := by decide +kernel
theorem dL_isKept_2 : decode cL_isKept 2 = .ok (.bipush 100, 2) := by decide +kernel
theorem dL_isKept_4 : decode cL_isKept 4 = .ok (.idiv, 1) := by decide +kernel
theorem dL_isKept_5 : decode cL_isKept 5 = .ok (.bipush 10, 2) := by decide +kernel
theorem dL_isKept_7 : decode cL_isKept 7 = .ok (.irem, 1) := by decide +kernel
theorem dL_isKept_8 : decode cL_isKept 8 = .ok (.if_icmp .ne 7, 3) := by decide +kernel
theorem dL_isKept_11 : decode cL_isKept 11 = .ok (.iconst 1, 1) := by decide +kernel
theorem dL_isKept_12 : decode cL_isKept 12 = .ok (.goto 4, 3) := by decide +kernel
theorem dL_isKept_15 : decode cL_isKept 15 = .ok (.iconst 0, 1) := by decide +kernel
theorem dL_isKept_16 : decode cL_isKept 16 = .ok (.istore_n 3, 1) := by decide +kernel
theorem dL_isKept_17 : decode cL_isKept 17 = .ok (.iload_n 2, 1) := by decide +kernel
theorem dL_isKept_18 : decode cL_isKept 18 = .ok (.iload_n 0, 1) := by decide +kernel
theorem dL_isKept_19 : decode cL_isKept 19 = .ok (.bipush 10, 2) := by decide +kernel
theorem dL_isKept_21 : decode cL_isKept 21 = .ok (.irem, 1) := by decide +kernel
theorem dL_isKept_22 : decode cL_isKept 22 = .ok (.if_icmp .ne 7, 3) := by decide +kernel
theorem dL_isKept_25 : decode cL_isKept 25 = .ok (.iconst 1, 1) := by decide +kernel
theorem dL_isKept_26 : decode cL_isKept 26 = .ok (.goto 4, 3) := by decide +kernel
theorem dL_isKept_29 : decode cL_isKept 29 = .ok (.iconst 0, 1) := by decide +kernel
theorem dL_isKept_30 : decode cL_isKept 30 = .ok (.istore 4, 2) := by decide +kernel
theorem dL_isKept_32 : decode cL_isKept 32 = .ok (.iload_n 0, 1) := by decide +kernel
theorem dL_isKept_33 : decode cL_isKept 33 = .ok (.sipush 10000, 3) := by decide +kernel
theorem dL_isKept_36 : decode cL_isKept 36 = .ok (.idiv, 1) := by decide +kernel
theorem dL_isKept_37 : decode cL_isKept 37 = .ok (.iconst 2, 1) := by decide +kernel
theorem dL_isKept_38 : decode cL_isKept 38 = .ok (.if_icmp .ne 17, 3) := by decide +kernel
theorem dL_isKept_41 : decode cL_isKept 41 = .ok (.iload_n 3, 1) := by decide +kernel
theorem dL_isKept_42 : decode cL_isKept 42 = .ok (.iload 4, 2) := by decide +kernel
theorem dL_isKept_44 : decode cL_isKept 44 = .ok (.if_icmp .ne 7, 3) := by decide +kernel
theorem dL_isKept_47 : decode cL_isKept 47 = .ok (.iconst 1, 1) := by decide +kernel
theorem dL_isKept_48 : decode cL_isKept 48 = .ok (.goto 35, 3) := by decide +kernel
theorem dL_isKept_51 : decode cL_isKept 51 = .ok (.iconst 0, 1) := by decide +kernel
theorem dL_isKept_52 : decode cL_isKept 52 = .ok (.goto 31, 3) := by decide +kernel
theorem dL_isKept_55 : decode cL_isKept 55 = .ok (.iload_n 3, 1) := by decide +kernel
theorem dL_isKept_56 : decode cL_isKept 56 = .ok (.ifCond .eq 22, 3) := by decide +kernel
theorem dL_isKept_59 : decode cL_isKept 59 = .ok (.iload 4, 2) := by decide +kernel
theorem dL_isKept_61 : decode cL_isKept 61 = .ok (.iload_n 0, 1) := by decide +kernel
theorem dL_isKept_62 : decode cL_isKept 62 = .ok (.sipush 10000, 3) := by decide +kernel
theorem dL_isKept_65 : decode cL_isKept 65 = .ok (.idiv, 1) := by decide +kernel
theorem dL_isKept_66 : decode cL_isKept 66 = .ok (.iconst 1, 1) := by decide +kernel
theorem dL_isKept_67 : decode cL_isKept 67 = .ok (.if_icmp .ne 7, 3) := by decide +kernel
theorem dL_isKept_70 : decode cL_isKept 70 = .ok (.iconst 1, 1) := by decide +kernel
theorem dL_isKept_71 : decode cL_isKept 71 = .ok (.goto 4, 3) := by decide +kernel
theorem dL_isKept_74 : decode cL_isKept 74 = .ok (.iconst 0, 1) := by decide +kernel
theorem dL_isKept_75 : decode cL_isKept 75 = .ok (.if_icmp .ne 7, 3) := by decide +kernel
theorem dL_isKept_78 : decode cL_isKept 78 = .ok (.iconst 1, 1) := by decide +kernel
theorem dL_isKept_79 : decode cL_isKept 79 = .ok (.goto 4, 3) := by decide +kernel
theorem dL_isKept_82 : decode cL_isKept 82 = .ok (.iconst 0, 1) := by decide +kernel
theorem dL_isKept_83 : decode cL_isKept 83 = .ok (.ireturn, 1) := by decide +kernel
theorem dL_keeps_0 : decode cL_keeps 0 = .ok (.iconst 0, 1) := by decide +kernel
theorem dL_keeps_1 : decode cL_keeps 1 = .ok (.istore 5, 2) := by decide +kernel
theorem dL_keeps_3 : decode cL_keeps 3 = .ok (.iload 5, 2) := by decide +kernel
theorem dL_keeps_5 : decode cL_keeps 5 = .ok (.aload_n 2, 1) := by decide +kernel
theorem dL_keeps_6 : decode cL_keeps 6 = .ok (.iconst 1, 1) := by decide +kernel
theorem dL_keeps_7 : decode cL_keeps 7 = .ok (.iaload, 1) := by decide +kernel
theorem dL_keeps_8 : decode cL_keeps 8 = .ok (.if_icmp .ge 66, 3) := by decide +kernel
theorem dL_keeps_11 : decode cL_keeps 11 = .ok (.iload_n 3, 1) := by decide +kernel
theorem dL_keeps_12 : decode cL_keeps 12 = .ok (.iload 5, 2) := by decide +kernel
theorem dL_keeps_14 : decode cL_keeps 14 = .ok (.ishr, 1) := by decide +kernel
theorem dL_keeps_15 : decode cL_keeps 15 = .ok (.iconst 1, 1) := by decide +kernel
theorem dL_keeps_16 : decode cL_keeps 16 = .ok (.iand, 1) := by decide +kernel
theorem dL_keeps_17 : decode cL_keeps 17 = .ok (.iconst 1, 1) := by decide +kernel
theorem dL_keeps_18 : decode cL_keeps 18 = .ok (.if_icmp .ne 50, 3) := by decide +kernel
theorem dL_keeps_21 : decode cL_keeps 21 = .ok (.aload_n 1, 1) := by decide +kernel
theorem dL_keeps_22 : decode cL_keeps 22 = .ok (.iload 5, 2) := by decide +kernel
theorem dL_keeps_24 : decode cL_keeps 24 = .ok (.iaload, 1) := by decide +kernel
theorem dL_keeps_25 : decode cL_keeps 25 = .ok (.aload_n 0, 1) := by decide +kernel
theorem dL_keeps_26 : decode cL_keeps 26 = .ok (.aload_n 2, 1) := by decide +kernel
theorem dL_keeps_27 : decode cL_keeps 27 = .ok (.iload 4, 2) := by decide +kernel
theorem dL_keeps_29 : decode cL_keeps 29 = .ok (.aload_n 1, 1) := by decide +kernel
theorem dL_keeps_30 : decode cL_keeps 30 = .ok (.iload 5, 2) := by decide +kernel
theorem dL_keeps_32 : decode cL_keeps 32 = .ok (.iaload, 1) := by decide +kernel
theorem dL_keeps_33 : decode cL_keeps 33 = .ok (.sipush 1000, 3) := by decide +kernel
theorem dL_keeps_36 : decode cL_keeps 36 = .ok (.idiv, 1) := by decide +kernel
theorem dL_keeps_37 : decode cL_keeps 37 = .ok (.bipush 10, 2) := by decide +kernel
theorem dL_keeps_39 : decode cL_keeps 39 = .ok (.irem, 1) := by decide +kernel
theorem dL_keeps_40 : decode cL_keeps 40 = .ok (.invokestatic 64, 3) := by decide +kernel
theorem dL_keeps_43 : decode cL_keeps 43 = .ok (.aload_n 0, 1) := by decide +kernel
theorem dL_keeps_44 : decode cL_keeps 44 = .ok (.aload_n 2, 1) := by decide +kernel
theorem dL_keeps_45 : decode cL_keeps 45 = .ok (.iload 4, 2) := by decide +kernel
theorem dL_keeps_47 : decode cL_keeps 47 = .ok (.aload_n 1, 1) := by decide +kernel
theorem dL_keeps_48 : decode cL_keeps 48 = .ok (.iload 5, 2) := by decide +kernel
theorem dL_keeps_50 : decode cL_keeps 50 = .ok (.iaload, 1) := by decide +kernel
theorem dL_keeps_51 : decode cL_keeps 51 = .ok (.bipush 10, 2) := by decide +kernel
theorem dL_keeps_53 : decode cL_keeps 53 = .ok (.idiv, 1) := by decide +kernel
theorem dL_keeps_54 : decode cL_keeps 54 = .ok (.bipush 10, 2) := by decide +kernel
theorem dL_keeps_56 : decode cL_keeps 56 = .ok (.irem, 1) := by decide +kernel
theorem dL_keeps_57 : decode cL_keeps 57 = .ok (.invokestatic 64, 3) := by decide +kernel
theorem dL_keeps_60 : decode cL_keeps 60 = .ok (.invokestatic 70, 3) := by decide +kernel
theorem dL_keeps_63 : decode cL_keeps 63 = .ok (.ifCond .ne 5, 3) := by decide +kernel
theorem dL_keeps_66 : decode cL_keeps 66 = .ok (.iconst 0, 1) := by decide +kernel
theorem dL_keeps_67 : decode cL_keeps 67 = .ok (.ireturn, 1) := by decide +kernel
theorem dL_keeps_68 : decode cL_keeps 68 = .ok (.iinc 5 1, 3) := by decide +kernel
theorem dL_keeps_71 : decode cL_keeps 71 = .ok (.goto (-68), 3) := by decide +kernel
theorem dL_keeps_74 : decode cL_keeps 74 = .ok (.iconst 1, 1) := by decide +kernel
theorem dL_keeps_75 : decode cL_keeps 75 = .ok (.ireturn, 1) := by decide +kernel
theorem dL_hasChoices_0 : decode cL_hasChoices 0 = .ok (.iconst 0, 1) := by decide +kernel
theorem dL_hasChoices_1 : decode cL_hasChoices 1 = .ok (.istore 5, 2) := by decide +kernel
theorem dL_hasChoices_3 : decode cL_hasChoices 3 = .ok (.iload 5, 2) := by decide +kernel
theorem dL_hasChoices_5 : decode cL_hasChoices 5 = .ok (.aload_n 2, 1) := by decide +kernel
theorem dL_hasChoices_6 : decode cL_hasChoices 6 = .ok (.iconst 0, 1) := by decide +kernel
theorem dL_hasChoices_7 : decode cL_hasChoices 7 = .ok (.iaload, 1) := by decide +kernel
theorem dL_hasChoices_8 : decode cL_hasChoices 8 = .ok (.if_icmp .ge 46, 3) := by decide +kernel
theorem dL_hasChoices_11 : decode cL_hasChoices 11 = .ok (.iload_n 3, 1) := by decide +kernel
theorem dL_hasChoices_12 : decode cL_hasChoices 12 = .ok (.iload 5, 2) := by decide +kernel
theorem dL_hasChoices_14 : decode cL_hasChoices 14 = .ok (.ishr, 1) := by decide +kernel
theorem dL_hasChoices_15 : decode cL_hasChoices 15 = .ok (.iconst 1, 1) := by decide +kernel
theorem dL_hasChoices_16 : decode cL_hasChoices 16 = .ok (.iand, 1) := by decide +kernel
theorem dL_hasChoices_17 : decode cL_hasChoices 17 = .ok (.iconst 1, 1) := by decide +kernel
theorem dL_hasChoices_18 : decode cL_hasChoices 18 = .ok (.if_icmp .ne 30, 3) := by decide +kernel
theorem dL_hasChoices_21 : decode cL_hasChoices 21 = .ok (.aload_n 1, 1) := by decide +kernel
theorem dL_hasChoices_22 : decode cL_hasChoices 22 = .ok (.iload 5, 2) := by decide +kernel
theorem dL_hasChoices_24 : decode cL_hasChoices 24 = .ok (.iaload, 1) := by decide +kernel
theorem dL_hasChoices_25 : decode cL_hasChoices 25 = .ok (.ifCond .le 23, 3) := by decide +kernel
theorem dL_hasChoices_28 : decode cL_hasChoices 28 = .ok (.aload_n 0, 1) := by decide +kernel
theorem dL_hasChoices_29 : decode cL_hasChoices 29 = .ok (.aload_n 2, 1) := by decide +kernel
theorem dL_hasChoices_30 : decode cL_hasChoices 30 = .ok (.iload 4, 2) := by decide +kernel
theorem dL_hasChoices_32 : decode cL_hasChoices 32 = .ok (.iload 5, 2) := by decide +kernel
theorem dL_hasChoices_34 : decode cL_hasChoices 34 = .ok (.invokestatic 64, 3) := by decide +kernel
theorem dL_hasChoices_37 : decode cL_hasChoices 37 = .ok (.aload_n 1, 1) := by decide +kernel
theorem dL_hasChoices_38 : decode cL_hasChoices 38 = .ok (.iload 5, 2) := by decide +kernel
theorem dL_hasChoices_40 : decode cL_hasChoices 40 = .ok (.iaload, 1) := by decide +kernel
theorem dL_hasChoices_41 : decode cL_hasChoices 41 = .ok (.iconst 1, 1) := by decide +kernel
theorem dL_hasChoices_42 : decode cL_hasChoices 42 = .ok (.isub, 1) := by decide +kernel
theorem dL_hasChoices_43 : decode cL_hasChoices 43 = .ok (.if_icmp .eq 5, 3) := by decide +kernel
theorem dL_hasChoices_46 : decode cL_hasChoices 46 = .ok (.iconst 0, 1) := by decide +kernel
theorem dL_hasChoices_47 : decode cL_hasChoices 47 = .ok (.ireturn, 1) := by decide +kernel
theorem dL_hasChoices_48 : decode cL_hasChoices 48 = .ok (.iinc 5 1, 3) := by decide +kernel
theorem dL_hasChoices_51 : decode cL_hasChoices 51 = .ok (.goto (-48), 3) := by decide +kernel
theorem dL_hasChoices_54 : decode cL_hasChoices 54 = .ok (.iconst 1, 1) := by decide +kernel
theorem dL_hasChoices_55 : decode cL_hasChoices 55 = .ok (.ireturn, 1) := by decide +kernel
theorem dL_some_0 : decode cL_some 0 = .ok (.iload 8, 2) := by decide +kernel
theorem dL_some_2 : decode cL_some 2 = .ok (.istore 9, 2) := by decide +kernel
theorem dL_some_4 : decode cL_some 4 = .ok (.iload 9, 2) := by decide +kernel
theorem dL_some_6 : decode cL_some 6 = .ok (.aload_n 3, 1) := by decide +kernel
theorem dL_some_7 : decode cL_some 7 = .ok (.bipush 6, 2) := by decide +kernel
theorem dL_some_9 : decode cL_some 9 = .ok (.iaload, 1) := by decide +kernel
theorem dL_some_10 : decode cL_some 10 = .ok (.if_icmp .ge 57, 3) := by decide +kernel
theorem dL_some_13 : decode cL_some 13 = .ok (.iload 6, 2) := by decide +kernel
theorem dL_some_15 : decode cL_some 15 = .ok (.ifCond .lt 17, 3) := by decide +kernel
theorem dL_some_18 : decode cL_some 18 = .ok (.aload_n 0, 1) := by decide +kernel
theorem dL_some_19 : decode cL_some 19 = .ok (.aload_n 3, 1) := by decide +kernel
theorem dL_some_20 : decode cL_some 20 = .ok (.iload 9, 2) := by decide +kernel
theorem dL_some_22 : decode cL_some 22 = .ok (.iload 6, 2) := by decide +kernel
theorem dL_some_24 : decode cL_some 24 = .ok (.invokestatic 64, 3) := by decide +kernel
theorem dL_some_27 : decode cL_some 27 = .ok (.iload 7, 2) := by decide +kernel
theorem dL_some_29 : decode cL_some 29 = .ok (.if_icmp .ne 32, 3) := by decide +kernel
theorem dL_some_32 : decode cL_some 32 = .ok (.aload_n 0, 1) := by decide +kernel
theorem dL_some_33 : decode cL_some 33 = .ok (.aload_n 2, 1) := by decide +kernel
theorem dL_some_34 : decode cL_some 34 = .ok (.aload_n 3, 1) := by decide +kernel
theorem dL_some_35 : decode cL_some 35 = .ok (.iload 5, 2) := by decide +kernel
theorem dL_some_37 : decode cL_some 37 = .ok (.iload 9, 2) := by decide +kernel
theorem dL_some_39 : decode cL_some 39 = .ok (.invokestatic 74, 3) := by decide +kernel
theorem dL_some_42 : decode cL_some 42 = .ok (.ifCond .eq 19, 3) := by decide +kernel
theorem dL_some_45 : decode cL_some 45 = .ok (.aload_n 0, 1) := by decide +kernel
theorem dL_some_46 : decode cL_some 46 = .ok (.aload_n 1, 1) := by decide +kernel
theorem dL_some_47 : decode cL_some 47 = .ok (.aload_n 3, 1) := by decide +kernel
theorem dL_some_48 : decode cL_some 48 = .ok (.iload 4, 2) := by decide +kernel
theorem dL_some_50 : decode cL_some 50 = .ok (.iload 9, 2) := by decide +kernel
theorem dL_some_52 : decode cL_some 52 = .ok (.invokestatic 78, 3) := by decide +kernel
theorem dL_some_55 : decode cL_some 55 = .ok (.ifCond .eq 6, 3) := by decide +kernel
theorem dL_some_58 : decode cL_some 58 = .ok (.iload 9, 2) := by decide +kernel
theorem dL_some_60 : decode cL_some 60 = .ok (.ireturn, 1) := by decide +kernel
theorem dL_some_61 : decode cL_some 61 = .ok (.iinc 9 1, 3) := by decide +kernel
theorem dL_some_64 : decode cL_some 64 = .ok (.goto (-60), 3) := by decide +kernel
theorem dL_some_67 : decode cL_some 67 = .ok (.iconst (-1), 1) := by decide +kernel
theorem dL_some_68 : decode cL_some 68 = .ok (.ireturn, 1) := by decide +kernel
theorem dL_isOffered_0 : decode cL_isOffered 0 = .ok (.aload_n 0, 1) := by decide +kernel
theorem dL_isOffered_1 : decode cL_isOffered 1 = .ok (.aload_n 1, 1) := by decide +kernel
theorem dL_isOffered_2 : decode cL_isOffered 2 = .ok (.aload_n 2, 1) := by decide +kernel
theorem dL_isOffered_3 : decode cL_isOffered 3 = .ok (.aload_n 3, 1) := by decide +kernel
theorem dL_isOffered_4 : decode cL_isOffered 4 = .ok (.aload_n 3, 1) := by decide +kernel
theorem dL_isOffered_5 : decode cL_isOffered 5 = .ok (.iconst 2, 1) := by decide +kernel
theorem dL_isOffered_6 : decode cL_isOffered 6 = .ok (.iaload, 1) := by decide +kernel
theorem dL_isOffered_7 : decode cL_isOffered 7 = .ok (.bipush 63, 2) := by decide +kernel
theorem dL_isOffered_9 : decode cL_isOffered 9 = .ok (.iload 4, 2) := by decide +kernel
theorem dL_isOffered_11 : decode cL_isOffered 11 = .ok (.iload 5, 2) := by decide +kernel
theorem dL_isOffered_13 : decode cL_isOffered 13 = .ok (.iconst 0, 1) := by decide +kernel
theorem dL_isOffered_14 : decode cL_isOffered 14 = .ok (.invokestatic 81, 3) := by decide +kernel
theorem dL_isOffered_17 : decode cL_isOffered 17 = .ok (.ifCond .lt 7, 3) := by decide +kernel
theorem dL_isOffered_20 : decode cL_isOffered 20 = .ok (.iconst 1, 1) := by decide +kernel
theorem dL_isOffered_21 : decode cL_isOffered 21 = .ok (.goto 4, 3) := by decide +kernel
theorem dL_isOffered_24 : decode cL_isOffered 24 = .ok (.iconst 0, 1) := by decide +kernel
theorem dL_isOffered_25 : decode cL_isOffered 25 = .ok (.ireturn, 1) := by decide +kernel
theorem dL_chooses_0 : decode cL_chooses 0 = .ok (.aload_n 1, 1) := by decide +kernel
theorem dL_chooses_1 : decode cL_chooses 1 = .ok (.iload_n 3, 1) := by decide +kernel
theorem dL_chooses_2 : decode cL_chooses 2 = .ok (.iload 4, 2) := by decide +kernel
theorem dL_chooses_4 : decode cL_chooses 4 = .ok (.iconst 1, 1) := by decide +kernel
theorem dL_chooses_5 : decode cL_chooses 5 = .ok (.iadd, 1) := by decide +kernel
theorem dL_chooses_6 : decode cL_chooses 6 = .ok (.iastore, 1) := by decide +kernel
theorem dL_chooses_7 : decode cL_chooses 7 = .ok (.aload_n 0, 1) := by decide +kernel
theorem dL_chooses_8 : decode cL_chooses 8 = .ok (.aload_n 2, 1) := by decide +kernel
theorem dL_chooses_9 : decode cL_chooses 9 = .ok (.iconst 5, 1) := by decide +kernel
theorem dL_chooses_10 : decode cL_chooses 10 = .ok (.iaload, 1) := by decide +kernel
theorem dL_chooses_11 : decode cL_chooses 11 = .ok (.iload_n 3, 1) := by decide +kernel
theorem dL_chooses_12 : decode cL_chooses 12 = .ok (.iastore, 1) := by decide +kernel
theorem dL_chooses_13 : decode cL_chooses 13 = .ok (.aload_n 2, 1) := by decide +kernel
theorem dL_chooses_14 : decode cL_chooses 14 = .ok (.iconst 5, 1) := by decide +kernel
theorem dL_chooses_15 : decode cL_chooses 15 = .ok (.dup2, 1) := by decide +kernel
theorem dL_chooses_16 : decode cL_chooses 16 = .ok (.iaload, 1) := by decide +kernel
theorem dL_chooses_17 : decode cL_chooses 17 = .ok (.iconst 1, 1) := by decide +kernel
theorem dL_chooses_18 : decode cL_chooses 18 = .ok (.iadd, 1) := by decide +kernel
theorem dL_chooses_19 : decode cL_chooses 19 = .ok (.iastore, 1) := by decide +kernel
theorem dL_chooses_20 : decode cL_chooses 20 = .ok (.return_, 1) := by decide +kernel
theorem dL_takesBack_0 : decode cL_takesBack 0 = .ok (.iconst 0, 1) := by decide +kernel
theorem dL_takesBack_1 : decode cL_takesBack 1 = .ok (.istore 4, 2) := by decide +kernel
theorem dL_takesBack_3 : decode cL_takesBack 3 = .ok (.aload_n 0, 1) := by decide +kernel
theorem dL_takesBack_4 : decode cL_takesBack 4 = .ok (.iload 4, 2) := by decide +kernel
theorem dL_takesBack_6 : decode cL_takesBack 6 = .ok (.iaload, 1) := by decide +kernel
theorem dL_takesBack_7 : decode cL_takesBack 7 = .ok (.iload_n 3, 1) := by decide +kernel
theorem dL_takesBack_8 : decode cL_takesBack 8 = .ok (.if_icmp .eq 9, 3) := by decide +kernel
theorem dL_takesBack_11 : decode cL_takesBack 11 = .ok (.iinc 4 1, 3) := by decide +kernel
theorem dL_takesBack_14 : decode cL_takesBack 14 = .ok (.goto (-11), 3) := by decide +kernel
theorem dL_takesBack_17 : decode cL_takesBack 17 = .ok (.aload_n 2, 1) := by decide +kernel
theorem dL_takesBack_18 : decode cL_takesBack 18 = .ok (.iconst 5, 1) := by decide +kernel
theorem dL_takesBack_19 : decode cL_takesBack 19 = .ok (.dup2, 1) := by decide +kernel
theorem dL_takesBack_20 : decode cL_takesBack 20 = .ok (.iaload, 1) := by decide +kernel
theorem dL_takesBack_21 : decode cL_takesBack 21 = .ok (.iconst 1, 1) := by decide +kernel
theorem dL_takesBack_22 : decode cL_takesBack 22 = .ok (.isub, 1) := by decide +kernel
theorem dL_takesBack_23 : decode cL_takesBack 23 = .ok (.iastore, 1) := by decide +kernel
theorem dL_takesBack_24 : decode cL_takesBack 24 = .ok (.iload 4, 2) := by decide +kernel
theorem dL_takesBack_26 : decode cL_takesBack 26 = .ok (.istore 5, 2) := by decide +kernel
theorem dL_takesBack_28 : decode cL_takesBack 28 = .ok (.iload 5, 2) := by decide +kernel
theorem dL_takesBack_30 : decode cL_takesBack 30 = .ok (.aload_n 2, 1) := by decide +kernel
theorem dL_takesBack_31 : decode cL_takesBack 31 = .ok (.iconst 5, 1) := by decide +kernel
theorem dL_takesBack_32 : decode cL_takesBack 32 = .ok (.iaload, 1) := by decide +kernel
theorem dL_takesBack_33 : decode cL_takesBack 33 = .ok (.if_icmp .ge 19, 3) := by decide +kernel
theorem dL_takesBack_36 : decode cL_takesBack 36 = .ok (.aload_n 0, 1) := by decide +kernel
theorem dL_takesBack_37 : decode cL_takesBack 37 = .ok (.iload 5, 2) := by decide +kernel
theorem dL_takesBack_39 : decode cL_takesBack 39 = .ok (.aload_n 0, 1) := by decide +kernel
theorem dL_takesBack_40 : decode cL_takesBack 40 = .ok (.iload 5, 2) := by decide +kernel
theorem dL_takesBack_42 : decode cL_takesBack 42 = .ok (.iconst 1, 1) := by decide +kernel
theorem dL_takesBack_43 : decode cL_takesBack 43 = .ok (.iadd, 1) := by decide +kernel
theorem dL_takesBack_44 : decode cL_takesBack 44 = .ok (.iaload, 1) := by decide +kernel
theorem dL_takesBack_45 : decode cL_takesBack 45 = .ok (.iastore, 1) := by decide +kernel
theorem dL_takesBack_46 : decode cL_takesBack 46 = .ok (.iinc 5 1, 3) := by decide +kernel
theorem dL_takesBack_49 : decode cL_takesBack 49 = .ok (.goto (-21), 3) := by decide +kernel
theorem dL_takesBack_52 : decode cL_takesBack 52 = .ok (.aload_n 1, 1) := by decide +kernel
theorem dL_takesBack_53 : decode cL_takesBack 53 = .ok (.iload_n 3, 1) := by decide +kernel
theorem dL_takesBack_54 : decode cL_takesBack 54 = .ok (.iconst 0, 1) := by decide +kernel
theorem dL_takesBack_55 : decode cL_takesBack 55 = .ok (.iastore, 1) := by decide +kernel
theorem dL_takesBack_56 : decode cL_takesBack 56 = .ok (.return_, 1) := by decide +kernel
theorem dL_explain_0 : decode cL_explain 0 = .ok (.aload 4, 2) := by decide +kernel
theorem dL_explain_2 : decode cL_explain 2 = .ok (.iconst 2, 1) := by decide +kernel
theorem dL_explain_3 : decode cL_explain 3 = .ok (.iaload, 1) := by decide +kernel
theorem dL_explain_4 : decode cL_explain 4 = .ok (.istore 7, 2) := by decide +kernel
theorem dL_explain_6 : decode cL_explain 6 = .ok (.bipush 63, 2) := by decide +kernel
theorem dL_explain_8 : decode cL_explain 8 = .ok (.iconst 1, 1) := by decide +kernel
theorem dL_explain_9 : decode cL_explain 9 = .ok (.iload 5, 2) := by decide +kernel
theorem dL_explain_11 : decode cL_explain 11 = .ok (.ishl, 1) := by decide +kernel
theorem dL_explain_12 : decode cL_explain 12 = .ok (.iconst (-1), 1) := by decide +kernel
theorem dL_explain_13 : decode cL_explain 13 = .ok (.ixor, 1) := by decide +kernel
theorem dL_explain_14 : decode cL_explain 14 = .ok (.iand, 1) := by decide +kernel
theorem dL_explain_15 : decode cL_explain 15 = .ok (.istore 8, 2) := by decide +kernel
theorem dL_explain_17 : decode cL_explain 17 = .ok (.iconst 0, 1) := by decide +kernel
theorem dL_explain_18 : decode cL_explain 18 = .ok (.istore 9, 2) := by decide +kernel
theorem dL_explain_20 : decode cL_explain 20 = .ok (.iload 9, 2) := by decide +kernel
theorem dL_explain_22 : decode cL_explain 22 = .ok (.aload 4, 2) := by decide +kernel
theorem dL_explain_24 : decode cL_explain 24 = .ok (.iconst 0, 1) := by decide +kernel
theorem dL_explain_25 : decode cL_explain 25 = .ok (.iaload, 1) := by decide +kernel
theorem dL_explain_26 : decode cL_explain 26 = .ok (.if_icmp .ge 27, 3) := by decide +kernel
theorem dL_explain_29 : decode cL_explain 29 = .ok (.aload_n 3, 1) := by decide +kernel
theorem dL_explain_30 : decode cL_explain 30 = .ok (.iload 9, 2) := by decide +kernel
theorem dL_explain_32 : decode cL_explain 32 = .ok (.iaload, 1) := by decide +kernel
theorem dL_explain_33 : decode cL_explain 33 = .ok (.ifCond .ne 14, 3) := by decide +kernel
theorem dL_explain_36 : decode cL_explain 36 = .ok (.iload 8, 2) := by decide +kernel
theorem dL_explain_38 : decode cL_explain 38 = .ok (.iconst 1, 1) := by decide +kernel
theorem dL_explain_39 : decode cL_explain 39 = .ok (.iload 9, 2) := by decide +kernel
theorem dL_explain_41 : decode cL_explain 41 = .ok (.ishl, 1) := by decide +kernel
theorem dL_explain_42 : decode cL_explain 42 = .ok (.iconst (-1), 1) := by decide +kernel
theorem dL_explain_43 : decode cL_explain 43 = .ok (.ixor, 1) := by decide +kernel
theorem dL_explain_44 : decode cL_explain 44 = .ok (.iand, 1) := by decide +kernel
theorem dL_explain_45 : decode cL_explain 45 = .ok (.istore 8, 2) := by decide +kernel
theorem dL_explain_47 : decode cL_explain 47 = .ok (.iinc 9 1, 3) := by decide +kernel
theorem dL_explain_50 : decode cL_explain 50 = .ok (.goto (-30), 3) := by decide +kernel
theorem dL_explain_53 : decode cL_explain 53 = .ok (.iload 8, 2) := by decide +kernel
theorem dL_explain_55 : decode cL_explain 55 = .ok (.iconst 1, 1) := by decide +kernel
theorem dL_explain_56 : decode cL_explain 56 = .ok (.aload 4, 2) := by decide +kernel
theorem dL_explain_58 : decode cL_explain 58 = .ok (.iconst 0, 1) := by decide +kernel
theorem dL_explain_59 : decode cL_explain 59 = .ok (.iaload, 1) := by decide +kernel
theorem dL_explain_60 : decode cL_explain 60 = .ok (.ishl, 1) := by decide +kernel
theorem dL_explain_61 : decode cL_explain 61 = .ok (.iconst 1, 1) := by decide +kernel
theorem dL_explain_62 : decode cL_explain 62 = .ok (.isub, 1) := by decide +kernel
theorem dL_explain_63 : decode cL_explain 63 = .ok (.iand, 1) := by decide +kernel
theorem dL_explain_64 : decode cL_explain 64 = .ok (.istore 8, 2) := by decide +kernel
theorem dL_explain_66 : decode cL_explain 66 = .ok (.aload_n 0, 1) := by decide +kernel
theorem dL_explain_67 : decode cL_explain 67 = .ok (.aload_n 1, 1) := by decide +kernel
theorem dL_explain_68 : decode cL_explain 68 = .ok (.aload_n 3, 1) := by decide +kernel
theorem dL_explain_69 : decode cL_explain 69 = .ok (.aload 4, 2) := by decide +kernel
theorem dL_explain_71 : decode cL_explain 71 = .ok (.iload 7, 2) := by decide +kernel
theorem dL_explain_73 : decode cL_explain 73 = .ok (.iload 8, 2) := by decide +kernel
theorem dL_explain_75 : decode cL_explain 75 = .ok (.iload 5, 2) := by decide +kernel
theorem dL_explain_77 : decode cL_explain 77 = .ok (.iload 6, 2) := by decide +kernel
theorem dL_explain_79 : decode cL_explain 79 = .ok (.iconst 0, 1) := by decide +kernel
theorem dL_explain_80 : decode cL_explain 80 = .ok (.invokestatic 81, 3) := by decide +kernel
theorem dL_explain_83 : decode cL_explain 83 = .ok (.ifCond .lt 5, 3) := by decide +kernel
theorem dL_explain_86 : decode cL_explain 86 = .ok (.iconst (-1), 1) := by decide +kernel
theorem dL_explain_87 : decode cL_explain 87 = .ok (.ireturn, 1) := by decide +kernel
theorem dL_explain_88 : decode cL_explain 88 = .ok (.bipush 19, 2) := by decide +kernel
theorem dL_explain_90 : decode cL_explain 90 = .ok (.istore 9, 2) := by decide +kernel
theorem dL_explain_92 : decode cL_explain 92 = .ok (.iload 9, 2) := by decide +kernel
theorem dL_explain_94 : decode cL_explain 94 = .ok (.ifCond .lt 54, 3) := by decide +kernel
theorem dL_explain_97 : decode cL_explain 97 = .ok (.iload 7, 2) := by decide +kernel
theorem dL_explain_99 : decode cL_explain 99 = .ok (.iload 9, 2) := by decide +kernel
theorem dL_explain_101 : decode cL_explain 101 = .ok (.ishr, 1) := by decide +kernel
theorem dL_explain_102 : decode cL_explain 102 = .ok (.iconst 1, 1) := by decide +kernel
theorem dL_explain_103 : decode cL_explain 103 = .ok (.iand, 1) := by decide +kernel
theorem dL_explain_104 : decode cL_explain 104 = .ok (.iconst 1, 1) := by decide +kernel
theorem dL_explain_105 : decode cL_explain 105 = .ok (.if_icmp .ne 37, 3) := by decide +kernel
theorem dL_explain_108 : decode cL_explain 108 = .ok (.aload_n 0, 1) := by decide +kernel
theorem dL_explain_109 : decode cL_explain 109 = .ok (.aload_n 1, 1) := by decide +kernel
theorem dL_explain_110 : decode cL_explain 110 = .ok (.aload_n 3, 1) := by decide +kernel
theorem dL_explain_111 : decode cL_explain 111 = .ok (.aload 4, 2) := by decide +kernel
theorem dL_explain_113 : decode cL_explain 113 = .ok (.iload 7, 2) := by decide +kernel
theorem dL_explain_115 : decode cL_explain 115 = .ok (.iconst 1, 1) := by decide +kernel
theorem dL_explain_116 : decode cL_explain 116 = .ok (.iload 9, 2) := by decide +kernel
theorem dL_explain_118 : decode cL_explain 118 = .ok (.ishl, 1) := by decide +kernel
theorem dL_explain_119 : decode cL_explain 119 = .ok (.ixor, 1) := by decide +kernel
theorem dL_explain_120 : decode cL_explain 120 = .ok (.iload 8, 2) := by decide +kernel
theorem dL_explain_122 : decode cL_explain 122 = .ok (.iload 5, 2) := by decide +kernel
theorem dL_explain_124 : decode cL_explain 124 = .ok (.iload 6, 2) := by decide +kernel
theorem dL_explain_126 : decode cL_explain 126 = .ok (.iconst 0, 1) := by decide +kernel
theorem dL_explain_127 : decode cL_explain 127 = .ok (.invokestatic 81, 3) := by decide +kernel
theorem dL_explain_130 : decode cL_explain 130 = .ok (.ifCond .ge 12, 3) := by decide +kernel
theorem dL_explain_133 : decode cL_explain 133 = .ok (.iload 7, 2) := by decide +kernel
theorem dL_explain_135 : decode cL_explain 135 = .ok (.iconst 1, 1) := by decide +kernel
theorem dL_explain_136 : decode cL_explain 136 = .ok (.iload 9, 2) := by decide +kernel
theorem dL_explain_138 : decode cL_explain 138 = .ok (.ishl, 1) := by decide +kernel
theorem dL_explain_139 : decode cL_explain 139 = .ok (.ixor, 1) := by decide +kernel
theorem dL_explain_140 : decode cL_explain 140 = .ok (.istore 7, 2) := by decide +kernel
theorem dL_explain_142 : decode cL_explain 142 = .ok (.iinc 9 (-1), 3) := by decide +kernel
theorem dL_explain_145 : decode cL_explain 145 = .ok (.goto (-53), 3) := by decide +kernel
theorem dL_explain_148 : decode cL_explain 148 = .ok (.aload 4, 2) := by decide +kernel
theorem dL_explain_150 : decode cL_explain 150 = .ok (.iconst 5, 1) := by decide +kernel
theorem dL_explain_151 : decode cL_explain 151 = .ok (.iaload, 1) := by decide +kernel
theorem dL_explain_152 : decode cL_explain 152 = .ok (.iconst 1, 1) := by decide +kernel
theorem dL_explain_153 : decode cL_explain 153 = .ok (.isub, 1) := by decide +kernel
theorem dL_explain_154 : decode cL_explain 154 = .ok (.istore 9, 2) := by decide +kernel
theorem dL_explain_156 : decode cL_explain 156 = .ok (.iload 9, 2) := by decide +kernel
theorem dL_explain_158 : decode cL_explain 158 = .ok (.ifCond .lt 60, 3) := by decide +kernel
theorem dL_explain_161 : decode cL_explain 161 = .ok (.iload 8, 2) := by decide +kernel
theorem dL_explain_163 : decode cL_explain 163 = .ok (.aload_n 2, 1) := by decide +kernel
theorem dL_explain_164 : decode cL_explain 164 = .ok (.iload 9, 2) := by decide +kernel
theorem dL_explain_166 : decode cL_explain 166 = .ok (.iaload, 1) := by decide +kernel
theorem dL_explain_167 : decode cL_explain 167 = .ok (.ishr, 1) := by decide +kernel
theorem dL_explain_168 : decode cL_explain 168 = .ok (.iconst 1, 1) := by decide +kernel
theorem dL_explain_169 : decode cL_explain 169 = .ok (.iand, 1) := by decide +kernel
theorem dL_explain_170 : decode cL_explain 170 = .ok (.iconst 1, 1) := by decide +kernel
theorem dL_explain_171 : decode cL_explain 171 = .ok (.if_icmp .ne 41, 3) := by decide +kernel
theorem dL_explain_174 : decode cL_explain 174 = .ok (.aload_n 0, 1) := by decide +kernel
theorem dL_explain_175 : decode cL_explain 175 = .ok (.aload_n 1, 1) := by decide +kernel
theorem dL_explain_176 : decode cL_explain 176 = .ok (.aload_n 3, 1) := by decide +kernel
theorem dL_explain_177 : decode cL_explain 177 = .ok (.aload 4, 2) := by decide +kernel
theorem dL_explain_179 : decode cL_explain 179 = .ok (.iload 7, 2) := by decide +kernel
theorem dL_explain_181 : decode cL_explain 181 = .ok (.iload 8, 2) := by decide +kernel
theorem dL_explain_183 : decode cL_explain 183 = .ok (.iconst 1, 1) := by decide +kernel
theorem dL_explain_184 : decode cL_explain 184 = .ok (.aload_n 2, 1) := by decide +kernel
theorem dL_explain_185 : decode cL_explain 185 = .ok (.iload 9, 2) := by decide +kernel
theorem dL_explain_187 : decode cL_explain 187 = .ok (.iaload, 1) := by decide +kernel
theorem dL_explain_188 : decode cL_explain 188 = .ok (.ishl, 1) := by decide +kernel
theorem dL_explain_189 : decode cL_explain 189 = .ok (.ixor, 1) := by decide +kernel
theorem dL_explain_190 : decode cL_explain 190 = .ok (.iload 5, 2) := by decide +kernel
theorem dL_explain_192 : decode cL_explain 192 = .ok (.iload 6, 2) := by decide +kernel
theorem dL_explain_194 : decode cL_explain 194 = .ok (.iconst 0, 1) := by decide +kernel
theorem dL_explain_195 : decode cL_explain 195 = .ok (.invokestatic 81, 3) := by decide +kernel
theorem dL_explain_198 : decode cL_explain 198 = .ok (.ifCond .ge 14, 3) := by decide +kernel
theorem dL_explain_201 : decode cL_explain 201 = .ok (.iload 8, 2) := by decide +kernel
theorem dL_explain_203 : decode cL_explain 203 = .ok (.iconst 1, 1) := by decide +kernel
theorem dL_explain_204 : decode cL_explain 204 = .ok (.aload_n 2, 1) := by decide +kernel
theorem dL_explain_205 : decode cL_explain 205 = .ok (.iload 9, 2) := by decide +kernel
theorem dL_explain_207 : decode cL_explain 207 = .ok (.iaload, 1) := by decide +kernel
theorem dL_explain_208 : decode cL_explain 208 = .ok (.ishl, 1) := by decide +kernel
theorem dL_explain_209 : decode cL_explain 209 = .ok (.ixor, 1) := by decide +kernel
theorem dL_explain_210 : decode cL_explain 210 = .ok (.istore 8, 2) := by decide +kernel
theorem dL_explain_212 : decode cL_explain 212 = .ok (.iinc 9 (-1), 3) := by decide +kernel
theorem dL_explain_215 : decode cL_explain 215 = .ok (.goto (-59), 3) := by decide +kernel
theorem dL_explain_218 : decode cL_explain 218 = .ok (.bipush 64, 2) := by decide +kernel
theorem dL_explain_220 : decode cL_explain 220 = .ok (.iload 7, 2) := by decide +kernel
theorem dL_explain_222 : decode cL_explain 222 = .ok (.imul, 1) := by decide +kernel
theorem dL_explain_223 : decode cL_explain 223 = .ok (.iload 8, 2) := by decide +kernel
theorem dL_explain_225 : decode cL_explain 225 = .ok (.iadd, 1) := by decide +kernel
theorem dL_explain_226 : decode cL_explain 226 = .ok (.ireturn, 1) := by decide +kernel
theorem dL_cost_0 : decode cL_cost 0 = .ok (.iconst 0, 1) := by decide +kernel
theorem dL_cost_1 : decode cL_cost 1 = .ok (.istore 5, 2) := by decide +kernel
theorem dL_cost_3 : decode cL_cost 3 = .ok (.iconst 0, 1) := by decide +kernel
theorem dL_cost_4 : decode cL_cost 4 = .ok (.istore 6, 2) := by decide +kernel
theorem dL_cost_6 : decode cL_cost 6 = .ok (.iload 6, 2) := by decide +kernel
theorem dL_cost_8 : decode cL_cost 8 = .ok (.aload_n 3, 1) := by decide +kernel
theorem dL_cost_9 : decode cL_cost 9 = .ok (.iconst 0, 1) := by decide +kernel
theorem dL_cost_10 : decode cL_cost 10 = .ok (.iaload, 1) := by decide +kernel
theorem dL_cost_11 : decode cL_cost 11 = .ok (.if_icmp .ge 30, 3) := by decide +kernel
theorem dL_cost_14 : decode cL_cost 14 = .ok (.iload 5, 2) := by decide +kernel
theorem dL_cost_16 : decode cL_cost 16 = .ok (.aload_n 1, 1) := by decide +kernel
theorem dL_cost_17 : decode cL_cost 17 = .ok (.iconst 5, 1) := by decide +kernel
theorem dL_cost_18 : decode cL_cost 18 = .ok (.iload 6, 2) := by decide +kernel
theorem dL_cost_20 : decode cL_cost 20 = .ok (.imul, 1) := by decide +kernel
theorem dL_cost_21 : decode cL_cost 21 = .ok (.aload_n 0, 1) := by decide +kernel
