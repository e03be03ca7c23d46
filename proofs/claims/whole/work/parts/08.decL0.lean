theorem d_L_bank_0 : decode method_3_code 0 = .ok (.aload_n 3, 1) := by decide +kernel
theorem d_L_bank_1 : decode method_3_code 1 = .ok (.iconst 0, 1) := by decide +kernel
theorem d_L_bank_2 : decode method_3_code 2 = .ok (.aload_n 0, 1) := by decide +kernel
theorem d_L_bank_3 : decode method_3_code 3 = .ok (.iload_n 1, 1) := by decide +kernel
theorem d_L_bank_4 : decode method_3_code 4 = .ok (.iload_n 2, 1) := by decide +kernel
theorem d_L_bank_5 : decode method_3_code 5 = .ok (.invokevirtual 7, 3) := by decide +kernel
theorem d_L_bank_8 : decode method_3_code 8 = .ok (.i2l, 1) := by decide +kernel
theorem d_L_bank_9 : decode method_3_code 9 = .ok (.lastore, 1) := by decide +kernel
theorem d_L_bank_10 : decode method_3_code 10 = .ok (.goto 19, 3) := by decide +kernel
theorem d_L_bank_13 : decode method_3_code 13 = .ok (.astore 4, 2) := by decide +kernel
theorem d_L_bank_15 : decode method_3_code 15 = .ok (.iconst 1, 1) := by decide +kernel
theorem d_L_bank_16 : decode method_3_code 16 = .ok (.ireturn, 1) := by decide +kernel
theorem d_L_bank_17 : decode method_3_code 17 = .ok (.astore 4, 2) := by decide +kernel
theorem d_L_bank_19 : decode method_3_code 19 = .ok (.iconst 2, 1) := by decide +kernel
theorem d_L_bank_20 : decode method_3_code 20 = .ok (.ireturn, 1) := by decide +kernel
theorem d_L_bank_21 : decode method_3_code 21 = .ok (.astore 4, 2) := by decide +kernel
theorem d_L_bank_23 : decode method_3_code 23 = .ok (.iconst 3, 1) := by decide +kernel
theorem d_L_bank_24 : decode method_3_code 24 = .ok (.ireturn, 1) := by decide +kernel
theorem d_L_bank_25 : decode method_3_code 25 = .ok (.astore 4, 2) := by decide +kernel
theorem d_L_bank_27 : decode method_3_code 27 = .ok (.iconst 4, 1) := by decide +kernel
theorem d_L_bank_28 : decode method_3_code 28 = .ok (.ireturn, 1) := by decide +kernel
theorem d_L_bank_29 : decode method_3_code 29 = .ok (.iconst 0, 1) := by decide +kernel
theorem d_L_bank_30 : decode method_3_code 30 = .ok (.ireturn, 1) := by decide +kernel
theorem d_L_buy_0 : decode method_4_code 0 = .ok (.aload_n 2, 1) := by decide +kernel
theorem d_L_buy_1 : decode method_4_code 1 = .ok (.iconst 0, 1) := by decide +kernel
theorem d_L_buy_2 : decode method_4_code 2 = .ok (.aload_n 0, 1) := by decide +kernel
theorem d_L_buy_3 : decode method_4_code 3 = .ok (.iload_n 1, 1) := by decide +kernel
theorem d_L_buy_4 : decode method_4_code 4 = .ok (.invokevirtual 21, 3) := by decide +kernel
theorem d_L_buy_7 : decode method_4_code 7 = .ok (.i2l, 1) := by decide +kernel
theorem d_L_buy_8 : decode method_4_code 8 = .ok (.lastore, 1) := by decide +kernel
theorem d_L_buy_9 : decode method_4_code 9 = .ok (.goto 12, 3) := by decide +kernel
theorem d_L_buy_12 : decode method_4_code 12 = .ok (.astore_n 3, 1) := by decide +kernel
theorem d_L_buy_13 : decode method_4_code 13 = .ok (.iconst 1, 1) := by decide +kernel
theorem d_L_buy_14 : decode method_4_code 14 = .ok (.ireturn, 1) := by decide +kernel
theorem d_L_buy_15 : decode method_4_code 15 = .ok (.astore_n 3, 1) := by decide +kernel
theorem d_L_buy_16 : decode method_4_code 16 = .ok (.iconst 2, 1) := by decide +kernel
theorem d_L_buy_17 : decode method_4_code 17 = .ok (.ireturn, 1) := by decide +kernel
theorem d_L_buy_18 : decode method_4_code 18 = .ok (.astore_n 3, 1) := by decide +kernel
theorem d_L_buy_19 : decode method_4_code 19 = .ok (.iconst 3, 1) := by decide +kernel
theorem d_L_buy_20 : decode method_4_code 20 = .ok (.ireturn, 1) := by decide +kernel
theorem d_L_buy_21 : decode method_4_code 21 = .ok (.iconst 0, 1) := by decide +kernel
theorem d_L_buy_22 : decode method_4_code 22 = .ok (.ireturn, 1) := by decide +kernel
theorem d_L_buyRun_0 : decode method_5_code 0 = .ok (.aload_n 3, 1) := by decide +kernel
theorem d_L_buyRun_1 : decode method_5_code 1 = .ok (.iconst 0, 1) := by decide +kernel
theorem d_L_buyRun_2 : decode method_5_code 2 = .ok (.aload_n 0, 1) := by decide +kernel
theorem d_L_buyRun_3 : decode method_5_code 3 = .ok (.iload_n 1, 1) := by decide +kernel
theorem d_L_buyRun_4 : decode method_5_code 4 = .ok (.iload_n 2, 1) := by decide +kernel
theorem d_L_buyRun_5 : decode method_5_code 5 = .ok (.invokevirtual 25, 3) := by decide +kernel
theorem d_L_buyRun_8 : decode method_5_code 8 = .ok (.i2l, 1) := by decide +kernel
theorem d_L_buyRun_9 : decode method_5_code 9 = .ok (.lastore, 1) := by decide +kernel
theorem d_L_buyRun_10 : decode method_5_code 10 = .ok (.goto 19, 3) := by decide +kernel
theorem d_L_buyRun_13 : decode method_5_code 13 = .ok (.astore 4, 2) := by decide +kernel
theorem d_L_buyRun_15 : decode method_5_code 15 = .ok (.iconst 1, 1) := by decide +kernel
theorem d_L_buyRun_16 : decode method_5_code 16 = .ok (.ireturn, 1) := by decide +kernel
theorem d_L_buyRun_17 : decode method_5_code 17 = .ok (.astore 4, 2) := by decide +kernel
theorem d_L_buyRun_19 : decode method_5_code 19 = .ok (.iconst 2, 1) := by decide +kernel
theorem d_L_buyRun_20 : decode method_5_code 20 = .ok (.ireturn, 1) := by decide +kernel
theorem d_L_buyRun_21 : decode method_5_code 21 = .ok (.astore 4, 2) := by decide +kernel
theorem d_L_buyRun_23 : decode method_5_code 23 = .ok (.iconst 3, 1) := by decide +kernel
theorem d_L_buyRun_24 : decode method_5_code 24 = .ok (.ireturn, 1) := by decide +kernel
theorem d_L_buyRun_25 : decode method_5_code 25 = .ok (.astore 4, 2) := by decide +kernel
theorem d_L_buyRun_27 : decode method_5_code 27 = .ok (.iconst 4, 1) := by decide +kernel
theorem d_L_buyRun_28 : decode method_5_code 28 = .ok (.ireturn, 1) := by decide +kernel
theorem d_L_buyRun_29 : decode method_5_code 29 = .ok (.iconst 0, 1) := by decide +kernel
theorem d_L_buyRun_30 : decode method_5_code 30 = .ok (.ireturn, 1) := by decide +kernel
theorem d_L_runKey_0 : decode method_6_code 0 = .ok (.aload_n 3, 1) := by decide +kernel
theorem d_L_runKey_1 : decode method_6_code 1 = .ok (.iconst 0, 1) := by decide +kernel
theorem d_L_runKey_2 : decode method_6_code 2 = .ok (.aload_n 0, 1) := by decide +kernel
theorem d_L_runKey_3 : decode method_6_code 3 = .ok (.iload_n 1, 1) := by decide +kernel
theorem d_L_runKey_4 : decode method_6_code 4 = .ok (.iload_n 2, 1) := by decide +kernel
theorem d_L_runKey_5 : decode method_6_code 5 = .ok (.invokevirtual 28, 3) := by decide +kernel
theorem d_L_runKey_8 : decode method_6_code 8 = .ok (.i2l, 1) := by decide +kernel
theorem d_L_runKey_9 : decode method_6_code 9 = .ok (.lastore, 1) := by decide +kernel
theorem d_L_runKey_10 : decode method_6_code 10 = .ok (.goto 11, 3) := by decide +kernel
theorem d_L_runKey_13 : decode method_6_code 13 = .ok (.astore 4, 2) := by decide +kernel
theorem d_L_runKey_15 : decode method_6_code 15 = .ok (.iconst 1, 1) := by decide +kernel
theorem d_L_runKey_16 : decode method_6_code 16 = .ok (.ireturn, 1) := by decide +kernel
theorem d_L_runKey_17 : decode method_6_code 17 = .ok (.astore 4, 2) := by decide +kernel
theorem d_L_runKey_19 : decode method_6_code 19 = .ok (.iconst 2, 1) := by decide +kernel
theorem d_L_runKey_20 : decode method_6_code 20 = .ok (.ireturn, 1) := by decide +kernel
theorem d_L_runKey_21 : decode method_6_code 21 = .ok (.iconst 0, 1) := by decide +kernel
theorem d_L_runKey_22 : decode method_6_code 22 = .ok (.ireturn, 1) := by decide +kernel
theorem d_L_sell_0 : decode method_7_code 0 = .ok (.aload_n 2, 1) := by decide +kernel
theorem d_L_sell_1 : decode method_7_code 1 = .ok (.iconst 0, 1) := by decide +kernel
theorem d_L_sell_2 : decode method_7_code 2 = .ok (.aload_n 0, 1) := by decide +kernel
theorem d_L_sell_3 : decode method_7_code 3 = .ok (.iload_n 1, 1) := by decide +kernel
theorem d_L_sell_4 : decode method_7_code 4 = .ok (.invokevirtual 33, 3) := by decide +kernel
theorem d_L_sell_7 : decode method_7_code 7 = .ok (.i2l, 1) := by decide +kernel
theorem d_L_sell_8 : decode method_7_code 8 = .ok (.lastore, 1) := by decide +kernel
theorem d_L_sell_9 : decode method_7_code 9 = .ok (.goto 9, 3) := by decide +kernel
theorem d_L_sell_12 : decode method_7_code 12 = .ok (.astore_n 3, 1) := by decide +kernel
theorem d_L_sell_13 : decode method_7_code 13 = .ok (.iconst 1, 1) := by decide +kernel
theorem d_L_sell_14 : decode method_7_code 14 = .ok (.ireturn, 1) := by decide +kernel
theorem d_L_sell_15 : decode method_7_code 15 = .ok (.astore_n 3, 1) := by decide +kernel
theorem d_L_sell_16 : decode method_7_code 16 = .ok (.iconst 2, 1) := by decide +kernel
theorem d_L_sell_17 : decode method_7_code 17 = .ok (.ireturn, 1) := by decide +kernel
theorem d_L_sell_18 : decode method_7_code 18 = .ok (.iconst 0, 1) := by decide +kernel
theorem d_L_sell_19 : decode method_7_code 19 = .ok (.ireturn, 1) := by decide +kernel
theorem d_L_weak_0 : decode method_8_code 0 = .ok (.aload_n 2, 1) := by decide +kernel
theorem d_L_weak_1 : decode method_8_code 1 = .ok (.iconst 0, 1) := by decide +kernel
theorem d_L_weak_2 : decode method_8_code 2 = .ok (.aload_n 0, 1) := by decide +kernel
theorem d_L_weak_3 : decode method_8_code 3 = .ok (.iload_n 1, 1) := by decide +kernel
theorem d_L_weak_4 : decode method_8_code 4 = .ok (.invokevirtual 36, 3) := by decide +kernel
theorem d_L_weak_7 : decode method_8_code 7 = .ok (.i2l, 1) := by decide +kernel
theorem d_L_weak_8 : decode method_8_code 8 = .ok (.lastore, 1) := by decide +kernel
theorem d_L_weak_9 : decode method_8_code 9 = .ok (.goto 6, 3) := by decide +kernel
theorem d_L_weak_12 : decode method_8_code 12 = .ok (.astore_n 3, 1) := by decide +kernel
theorem d_L_weak_13 : decode method_8_code 13 = .ok (.iconst 1, 1) := by decide +kernel
theorem d_L_weak_14 : decode method_8_code 14 = .ok (.ireturn, 1) := by decide +kernel
theorem d_L_weak_15 : decode method_8_code 15 = .ok (.iconst 0, 1) := by decide +kernel
theorem d_L_weak_16 : decode method_8_code 16 = .ok (.ireturn, 1) := by decide +kernel
theorem d_L_read_0 : decode method_9_code 0 = .ok (.aload_n 3, 1) := by decide +kernel
theorem d_L_read_1 : decode method_9_code 1 = .ok (.iconst 0, 1) := by decide +kernel
theorem d_L_read_2 : decode method_9_code 2 = .ok (.aload_n 0, 1) := by decide +kernel
theorem d_L_read_3 : decode method_9_code 3 = .ok (.iload_n 1, 1) := by decide +kernel
theorem d_L_read_4 : decode method_9_code 4 = .ok (.iload_n 2, 1) := by decide +kernel
theorem d_L_read_5 : decode method_9_code 5 = .ok (.invokevirtual 39, 3) := by decide +kernel
theorem d_L_read_8 : decode method_9_code 8 = .ok (.i2l, 1) := by decide +kernel
theorem d_L_read_9 : decode method_9_code 9 = .ok (.lastore, 1) := by decide +kernel
theorem d_L_read_10 : decode method_9_code 10 = .ok (.goto 11, 3) := by decide +kernel
theorem d_L_read_13 : decode method_9_code 13 = .ok (.astore 4, 2) := by decide +kernel
theorem d_L_read_15 : decode method_9_code 15 = .ok (.iconst 1, 1) := by decide +kernel
theorem d_L_read_16 : decode method_9_code 16 = .ok (.ireturn, 1) := by decide +kernel
theorem d_L_read_17 : decode method_9_code 17 = .ok (.astore 4, 2) := by decide +kernel
theorem d_L_read_19 : decode method_9_code 19 = .ok (.iconst 2, 1) := by decide +kernel
theorem d_L_read_20 : decode method_9_code 20 = .ok (.ireturn, 1) := by decide +kernel
theorem d_L_read_21 : decode method_9_code 21 = .ok (.iconst 0, 1) := by decide +kernel
theorem d_L_read_22 : decode method_9_code 22 = .ok (.ireturn, 1) := by decide +kernel
theorem d_L_write_0 : decode method_10_code 0 = .ok (.aload 4, 2) := by decide +kernel
theorem d_L_write_2 : decode method_10_code 2 = .ok (.iconst 0, 1) := by decide +kernel
theorem d_L_write_3 : decode method_10_code 3 = .ok (.aload_n 0, 1) := by decide +kernel
theorem d_L_write_4 : decode method_10_code 4 = .ok (.iload_n 1, 1) := by decide +kernel
theorem d_L_write_5 : decode method_10_code 5 = .ok (.iload_n 2, 1) := by decide +kernel
theorem d_L_write_6 : decode method_10_code 6 = .ok (.iload_n 3, 1) := by decide +kernel
theorem d_L_write_7 : decode method_10_code 7 = .ok (.invokevirtual 42, 3) := by decide +kernel
theorem d_L_write_10 : decode method_10_code 10 = .ok (.i2l, 1) := by decide +kernel
theorem d_L_write_11 : decode method_10_code 11 = .ok (.lastore, 1) := by decide +kernel
theorem d_L_write_12 : decode method_10_code 12 = .ok (.goto 15, 3) := by decide +kernel
theorem d_L_write_15 : decode method_10_code 15 = .ok (.astore 5, 2) := by decide +kernel
theorem d_L_write_17 : decode method_10_code 17 = .ok (.iconst 1, 1) := by decide +kernel
theorem d_L_write_18 : decode method_10_code 18 = .ok (.ireturn, 1) := by decide +kernel
theorem d_L_write_19 : decode method_10_code 19 = .ok (.astore 5, 2) := by decide +kernel
theorem d_L_write_21 : decode method_10_code 21 = .ok (.iconst 2, 1) := by decide +kernel
theorem d_L_write_22 : decode method_10_code 22 = .ok (.ireturn, 1) := by decide +kernel
theorem d_L_write_23 : decode method_10_code 23 = .ok (.astore 5, 2) := by decide +kernel
theorem d_L_write_25 : decode method_10_code 25 = .ok (.iconst 3, 1) := by decide +kernel
theorem d_L_write_26 : decode method_10_code 26 = .ok (.ireturn, 1) := by decide +kernel
theorem d_L_write_27 : decode method_10_code 27 = .ok (.iconst 0, 1) := by decide +kernel
theorem d_L_write_28 : decode method_10_code 28 = .ok (.ireturn, 1) := by decide +kernel
theorem d_L_move_0 : decode method_11_code 0 = .ok (.aload_n 3, 1) := by decide +kernel
theorem d_L_move_1 : decode method_11_code 1 = .ok (.iconst 0, 1) := by decide +kernel
theorem d_L_move_2 : decode method_11_code 2 = .ok (.aload_n 0, 1) := by decide +kernel
theorem d_L_move_3 : decode method_11_code 3 = .ok (.iload_n 1, 1) := by decide +kernel
theorem d_L_move_4 : decode method_11_code 4 = .ok (.iload_n 2, 1) := by decide +kernel
theorem d_L_move_5 : decode method_11_code 5 = .ok (.invokevirtual 46, 3) := by decide +kernel
theorem d_L_move_8 : decode method_11_code 8 = .ok (.i2l, 1) := by decide +kernel
theorem d_L_move_9 : decode method_11_code 9 = .ok (.lastore, 1) := by decide +kernel
theorem d_L_move_10 : decode method_11_code 10 = .ok (.goto 23, 3) := by decide +kernel
theorem d_L_move_13 : decode method_11_code 13 = .ok (.astore 4, 2) := by decide +kernel
theorem d_L_move_15 : decode method_11_code 15 = .ok (.iconst 1, 1) := by decide +kernel
theorem d_L_move_16 : decode method_11_code 16 = .ok (.ireturn, 1) := by decide +kernel
theorem d_L_move_17 : decode method_11_code 17 = .ok (.astore 4, 2) := by decide +kernel
theorem d_L_move_19 : decode method_11_code 19 = .ok (.iconst 2, 1) := by decide +kernel
theorem d_L_move_20 : decode method_11_code 20 = .ok (.ireturn, 1) := by decide +kernel
theorem d_L_move_21 : decode method_11_code 21 = .ok (.astore 4, 2) := by decide +kernel
theorem d_L_move_23 : decode method_11_code 23 = .ok (.iconst 3, 1) := by decide +kernel
theorem d_L_move_24 : decode method_11_code 24 = .ok (.ireturn, 1) := by decide +kernel
theorem d_L_move_25 : decode method_11_code 25 = .ok (.astore 4, 2) := by decide +kernel
theorem d_L_move_27 : decode method_11_code 27 = .ok (.iconst 4, 1) := by decide +kernel
theorem d_L_move_28 : decode method_11_code 28 = .ok (.ireturn, 1) := by decide +kernel
theorem d_L_move_29 : decode method_11_code 29 = .ok (.astore 4, 2) := by decide +kernel
theorem d_L_move_31 : decode method_11_code 31 = .ok (.iconst 5, 1) := by decide +kernel
theorem d_L_move_32 : decode method_11_code 32 = .ok (.ireturn, 1) := by decide +kernel
theorem d_L_move_33 : decode method_11_code 33 = .ok (.iconst 0, 1) := by decide +kernel
theorem d_L_move_34 : decode method_11_code 34 = .ok (.ireturn, 1) := by decide +kernel
theorem d_L_limit_0 : decode method_12_code 0 = .ok (.aload_n 3, 1) := by decide +kernel
theorem d_L_limit_1 : decode method_12_code 1 = .ok (.iconst 0, 1) := by decide +kernel
theorem d_L_limit_2 : decode method_12_code 2 = .ok (.aload_n 0, 1) := by decide +kernel
theorem d_L_limit_3 : decode method_12_code 3 = .ok (.iload_n 1, 1) := by decide +kernel
theorem d_L_limit_4 : decode method_12_code 4 = .ok (.iload_n 2, 1) := by decide +kernel
theorem d_L_limit_5 : decode method_12_code 5 = .ok (.invokevirtual 49, 3) := by decide +kernel
theorem d_L_limit_8 : decode method_12_code 8 = .ok (.i2l, 1) := by decide +kernel
theorem d_L_limit_9 : decode method_12_code 9 = .ok (.lastore, 1) := by decide +kernel
theorem d_L_limit_10 : decode method_12_code 10 = .ok (.goto 15, 3) := by decide +kernel
theorem d_L_limit_13 : decode method_12_code 13 = .ok (.astore 4, 2) := by decide +kernel
theorem d_L_limit_15 : decode method_12_code 15 = .ok (.iconst 1, 1) := by decide +kernel
theorem d_L_limit_16 : decode method_12_code 16 = .ok (.ireturn, 1) := by decide +kernel
theorem d_L_limit_17 : decode method_12_code 17 = .ok (.astore 4, 2) := by decide +kernel
theorem d_L_limit_19 : decode method_12_code 19 = .ok (.iconst 2, 1) := by decide +kernel
theorem d_L_limit_20 : decode method_12_code 20 = .ok (.ireturn, 1) := by decide +kernel
theorem d_L_limit_21 : decode method_12_code 21 = .ok (.astore 4, 2) := by decide +kernel
theorem d_L_limit_23 : decode method_12_code 23 = .ok (.iconst 3, 1) := by decide +kernel
theorem d_L_limit_24 : decode method_12_code 24 = .ok (.ireturn, 1) := by decide +kernel
theorem d_L_limit_25 : decode method_12_code 25 = .ok (.iconst 0, 1) := by decide +kernel
theorem d_L_limit_26 : decode method_12_code 26 = .ok (.ireturn, 1) := by decide +kernel
theorem d_L_reserve_0 : decode method_13_code 0 = .ok (.aload_n 3, 1) := by decide +kernel
theorem d_L_reserve_1 : decode method_13_code 1 = .ok (.iconst 0, 1) := by decide +kernel
theorem d_L_reserve_2 : decode method_13_code 2 = .ok (.aload_n 0, 1) := by decide +kernel
theorem d_L_reserve_3 : decode method_13_code 3 = .ok (.iload_n 1, 1) := by decide +kernel
theorem d_L_reserve_4 : decode method_13_code 4 = .ok (.iload_n 2, 1) := by decide +kernel
theorem d_L_reserve_5 : decode method_13_code 5 = .ok (.invokevirtual 52, 3) := by decide +kernel
theorem d_L_reserve_8 : decode method_13_code 8 = .ok (.i2l, 1) := by decide +kernel
theorem d_L_reserve_9 : decode method_13_code 9 = .ok (.lastore, 1) := by decide +kernel
theorem d_L_reserve_10 : decode method_13_code 10 = .ok (.goto 19, 3) := by decide +kernel
theorem d_L_reserve_13 : decode method_13_code 13 = .ok (.astore 4, 2) := by decide +kernel
theorem d_L_reserve_15 : decode method_13_code 15 = .ok (.iconst 1, 1) := by decide +kernel
theorem d_L_reserve_16 : decode method_13_code 16 = .ok (.ireturn, 1) := by decide +kernel
theorem d_L_reserve_17 : decode method_13_code 17 = .ok (.astore 4, 2) := by decide +kernel
theorem d_L_reserve_19 : decode method_13_code 19 = .ok (.iconst 2, 1) := by decide +kernel
theorem d_L_reserve_20 : decode method_13_code 20 = .ok (.ireturn, 1) := by decide +kernel
theorem d_L_reserve_21 : decode method_13_code 21 = .ok (.astore 4, 2) := by decide +kernel
theorem d_L_reserve_23 : decode method_13_code 23 = .ok (.iconst 3, 1) := by decide +kernel
theorem d_L_reserve_24 : decode method_13_code 24 = .ok (.ireturn, 1) := by decide +kernel
theorem d_L_reserve_25 : decode method_13_code 25 = .ok (.astore 4, 2) := by decide +kernel
theorem d_L_reserve_27 : decode method_13_code 27 = .ok (.iconst 4, 1) := by decide +kernel
theorem d_L_reserve_28 : decode method_13_code 28 = .ok (.ireturn, 1) := by decide +kernel
theorem d_L_reserve_29 : decode method_13_code 29 = .ok (.iconst 0, 1) := by decide +kernel
theorem d_L_reserve_30 : decode method_13_code 30 = .ok (.ireturn, 1) := by decide +kernel
theorem d_L_unreserve_0 : decode method_14_code 0 = .ok (.aload_n 3, 1) := by decide +kernel
theorem d_L_unreserve_1 : decode method_14_code 1 = .ok (.iconst 0, 1) := by decide +kernel
theorem d_L_unreserve_2 : decode method_14_code 2 = .ok (.aload_n 0, 1) := by decide +kernel
theorem d_L_unreserve_3 : decode method_14_code 3 = .ok (.iload_n 1, 1) := by decide +kernel
theorem d_L_unreserve_4 : decode method_14_code 4 = .ok (.iload_n 2, 1) := by decide +kernel
theorem d_L_unreserve_5 : decode method_14_code 5 = .ok (.invokevirtual 55, 3) := by decide +kernel
theorem d_L_unreserve_8 : decode method_14_code 8 = .ok (.i2l, 1) := by decide +kernel
theorem d_L_unreserve_9 : decode method_14_code 9 = .ok (.lastore, 1) := by decide +kernel
theorem d_L_unreserve_10 : decode method_14_code 10 = .ok (.goto 11, 3) := by decide +kernel
theorem d_L_unreserve_13 : decode method_14_code 13 = .ok (.astore 4, 2) := by decide +kernel
theorem d_L_unreserve_15 : decode method_14_code 15 = .ok (.iconst 1, 1) := by decide +kernel
theorem d_L_unreserve_16 : decode method_14_code 16 = .ok (.ireturn, 1) := by decide +kernel
theorem d_L_unreserve_17 : decode method_14_code 17 = .ok (.astore 4, 2) := by decide +kernel
theorem d_L_unreserve_19 : decode method_14_code 19 = .ok (.iconst 2, 1) := by decide +kernel
theorem d_L_unreserve_20 : decode method_14_code 20 = .ok (.ireturn, 1) := by decide +kernel
theorem d_L_unreserve_21 : decode method_14_code 21 = .ok (.iconst 0, 1) := by decide +kernel
theorem d_L_unreserve_22 : decode method_14_code 22 = .ok (.ireturn, 1) := by decide +kernel
theorem d_L_freeze_0 : decode method_15_code 0 = .ok (.aload_n 3, 1) := by decide +kernel
theorem d_L_freeze_1 : decode method_15_code 1 = .ok (.iconst 0, 1) := by decide +kernel
theorem d_L_freeze_2 : decode method_15_code 2 = .ok (.aload_n 0, 1) := by decide +kernel
theorem d_L_freeze_3 : decode method_15_code 3 = .ok (.iload_n 1, 1) := by decide +kernel
theorem d_L_freeze_4 : decode method_15_code 4 = .ok (.iload_n 2, 1) := by decide +kernel
theorem d_L_freeze_5 : decode method_15_code 5 = .ok (.invokevirtual 58, 3) := by decide +kernel
theorem d_L_freeze_8 : decode method_15_code 8 = .ok (.ifCond .eq 7, 3) := by decide +kernel
theorem d_L_freeze_11 : decode method_15_code 11 = .ok (.lconst 1, 1) := by decide +kernel
theorem d_L_freeze_12 : decode method_15_code 12 = .ok (.goto 4, 3) := by decide +kernel
theorem d_L_freeze_15 : decode method_15_code 15 = .ok (.lconst 0, 1) := by decide +kernel
theorem d_L_freeze_16 : decode method_15_code 16 = .ok (.lastore, 1) := by decide +kernel
theorem d_L_freeze_17 : decode method_15_code 17 = .ok (.goto 15, 3) := by decide +kernel
theorem d_L_freeze_20 : decode method_15_code 20 = .ok (.astore 4, 2) := by decide +kernel
theorem d_L_freeze_22 : decode method_15_code 22 = .ok (.iconst 1, 1) := by decide +kernel
theorem d_L_freeze_23 : decode method_15_code 23 = .ok (.ireturn, 1) := by decide +kernel
theorem d_L_freeze_24 : decode method_15_code 24 = .ok (.astore 4, 2) := by decide +kernel
theorem d_L_freeze_26 : decode method_15_code 26 = .ok (.iconst 2, 1) := by decide +kernel
theorem d_L_freeze_27 : decode method_15_code 27 = .ok (.ireturn, 1) := by decide +kernel
theorem d_L_freeze_28 : decode method_15_code 28 = .ok (.astore 4, 2) := by decide +kernel
theorem d_L_freeze_30 : decode method_15_code 30 = .ok (.iconst 3, 1) := by decide +kernel
theorem d_L_freeze_31 : decode method_15_code 31 = .ok (.ireturn, 1) := by decide +kernel
theorem d_L_freeze_32 : decode method_15_code 32 = .ok (.iconst 0, 1) := by decide +kernel
theorem d_L_freeze_33 : decode method_15_code 33 = .ok (.ireturn, 1) := by decide +kernel
theorem d_L_destroy_0 : decode method_16_code 0 = .ok (.aload_n 2, 1) := by decide +kernel
theorem d_L_destroy_1 : decode method_16_code 1 = .ok (.iconst 0, 1) := by decide +kernel
theorem d_L_destroy_2 : decode method_16_code 2 = .ok (.aload_n 0, 1) := by decide +kernel
theorem d_L_destroy_3 : decode method_16_code 3 = .ok (.iload_n 1, 1) := by decide +kernel
theorem d_L_destroy_4 : decode method_16_code 4 = .ok (.invokevirtual 62, 3) := by decide +kernel
theorem d_L_destroy_7 : decode method_16_code 7 = .ok (.i2l, 1) := by decide +kernel
theorem d_L_destroy_8 : decode method_16_code 8 = .ok (.lastore, 1) := by decide +kernel
theorem d_L_destroy_9 : decode method_16_code 9 = .ok (.goto 12, 3) := by decide +kernel
theorem d_L_destroy_12 : decode method_16_code 12 = .ok (.astore_n 3, 1) := by decide +kernel
theorem d_L_destroy_13 : decode method_16_code 13 = .ok (.iconst 1, 1) := by decide +kernel
theorem d_L_destroy_14 : decode method_16_code 14 = .ok (.ireturn, 1) := by decide +kernel
theorem d_L_destroy_15 : decode method_16_code 15 = .ok (.astore_n 3, 1) := by decide +kernel
theorem d_L_destroy_16 : decode method_16_code 16 = .ok (.iconst 2, 1) := by decide +kernel
theorem d_L_destroy_17 : decode method_16_code 17 = .ok (.ireturn, 1) := by decide +kernel
theorem d_L_destroy_18 : decode method_16_code 18 = .ok (.astore_n 3, 1) := by decide +kernel
theorem d_L_destroy_19 : decode method_16_code 19 = .ok (.iconst 3, 1) := by decide +kernel
theorem d_L_destroy_20 : decode method_16_code 20 = .ok (.ireturn, 1) := by decide +kernel
theorem d_L_destroy_21 : decode method_16_code 21 = .ok (.iconst 0, 1) := by decide +kernel
theorem d_L_destroy_22 : decode method_16_code 22 = .ok (.ireturn, 1) := by decide +kernel
theorem d_L_work_0 : decode method_17_code 0 = .ok (.aload_n 2, 1) := by decide +kernel
theorem d_L_work_1 : decode method_17_code 1 = .ok (.iconst 0, 1) := by decide +kernel
theorem d_L_work_2 : decode method_17_code 2 = .ok (.aload_n 0, 1) := by decide +kernel
theorem d_L_work_3 : decode method_17_code 3 = .ok (.iload_n 1, 1) := by decide +kernel
theorem d_L_work_4 : decode method_17_code 4 = .ok (.invokevirtual 65, 3) := by decide +kernel
theorem d_L_work_7 : decode method_17_code 7 = .ok (.i2l, 1) := by decide +kernel
theorem d_L_work_8 : decode method_17_code 8 = .ok (.lastore, 1) := by decide +kernel
theorem d_L_work_9 : decode method_17_code 9 = .ok (.goto 6, 3) := by decide +kernel
theorem d_L_work_12 : decode method_17_code 12 = .ok (.astore_n 3, 1) := by decide +kernel
theorem d_L_work_13 : decode method_17_code 13 = .ok (.iconst 1, 1) := by decide +kernel
theorem d_L_work_14 : decode method_17_code 14 = .ok (.ireturn, 1) := by decide +kernel
theorem d_L_work_15 : decode method_17_code 15 = .ok (.iconst 0, 1) := by decide +kernel
theorem d_L_work_16 : decode method_17_code 16 = .ok (.ireturn, 1) := by decide +kernel
theorem d_L_handUp_0 : decode method_18_code 0 = .ok (.aload_n 2, 1) := by decide +kernel
theorem d_L_handUp_1 : decode method_18_code 1 = .ok (.iconst 0, 1) := by decide +kernel
theorem d_L_handUp_2 : decode method_18_code 2 = .ok (.aload_n 0, 1) := by decide +kernel
theorem d_L_handUp_3 : decode method_18_code 3 = .ok (.iload_n 1, 1) := by decide +kernel
theorem d_L_handUp_4 : decode method_18_code 4 = .ok (.invokevirtual 68, 3) := by decide +kernel
theorem d_L_handUp_7 : decode method_18_code 7 = .ok (.i2l, 1) := by decide +kernel
theorem d_L_handUp_8 : decode method_18_code 8 = .ok (.lastore, 1) := by decide +kernel
theorem d_L_handUp_9 : decode method_18_code 9 = .ok (.goto 12, 3) := by decide +kernel
theorem d_L_handUp_12 : decode method_18_code 12 = .ok (.astore_n 3, 1) := by decide +kernel
theorem d_L_handUp_13 : decode method_18_code 13 = .ok (.iconst 1, 1) := by decide +kernel
theorem d_L_handUp_14 : decode method_18_code 14 = .ok (.ireturn, 1) := by decide +kernel
theorem d_L_handUp_15 : decode method_18_code 15 = .ok (.astore_n 3, 1) := by decide +kernel
theorem d_L_handUp_16 : decode method_18_code 16 = .ok (.iconst 2, 1) := by decide +kernel
theorem d_L_handUp_17 : decode method_18_code 17 = .ok (.ireturn, 1) := by decide +kernel
theorem d_L_handUp_18 : decode method_18_code 18 = .ok (.astore_n 3, 1) := by decide +kernel
theorem d_L_handUp_19 : decode method_18_code 19 = .ok (.iconst 3, 1) := by decide +kernel
theorem d_L_handUp_20 : decode method_18_code 20 = .ok (.ireturn, 1) := by decide +kernel
theorem d_L_handUp_21 : decode method_18_code 21 = .ok (.iconst 0, 1) := by decide +kernel
theorem d_L_handUp_22 : decode method_18_code 22 = .ok (.ireturn, 1) := by decide +kernel
theorem d_L_told_0 : decode method_19_code 0 = .ok (.aload_n 3, 1) := by decide +kernel
theorem d_L_told_1 : decode method_19_code 1 = .ok (.iconst 0, 1) := by decide +kernel
theorem d_L_told_2 : decode method_19_code 2 = .ok (.aload_n 0, 1) := by decide +kernel
theorem d_L_told_3 : decode method_19_code 3 = .ok (.iload_n 1, 1) := by decide +kernel
theorem d_L_told_4 : decode method_19_code 4 = .ok (.iload_n 2, 1) := by decide +kernel
theorem d_L_told_5 : decode method_19_code 5 = .ok (.invokevirtual 71, 3) := by decide +kernel
theorem d_L_told_8 : decode method_19_code 8 = .ok (.i2l, 1) := by decide +kernel
theorem d_L_told_9 : decode method_19_code 9 = .ok (.lastore, 1) := by decide +kernel
theorem d_L_told_10 : decode method_19_code 10 = .ok (.goto 11, 3) := by decide +kernel
theorem d_L_told_13 : decode method_19_code 13 = .ok (.astore 4, 2) := by decide +kernel
theorem d_L_told_15 : decode method_19_code 15 = .ok (.iconst 1, 1) := by decide +kernel
theorem d_L_told_16 : decode method_19_code 16 = .ok (.ireturn, 1) := by decide +kernel
theorem d_L_told_17 : decode method_19_code 17 = .ok (.astore 4, 2) := by decide +kernel
theorem d_L_told_19 : decode method_19_code 19 = .ok (.iconst 2, 1) := by decide +kernel
theorem d_L_told_20 : decode method_19_code 20 = .ok (.ireturn, 1) := by decide +kernel
theorem d_L_told_21 : decode method_19_code 21 = .ok (.iconst 0, 1) := by decide +kernel
theorem d_L_told_22 : decode method_19_code 22 = .ok (.ireturn, 1) := by decide +kernel
theorem d_L_page_0 : decode method_20_code 0 = .ok (.aload_n 3, 1) := by decide +kernel
theorem d_L_page_1 : decode method_20_code 1 = .ok (.iconst 0, 1) := by decide +kernel
theorem d_L_page_2 : decode method_20_code 2 = .ok (.aload_n 0, 1) := by decide +kernel
theorem d_L_page_3 : decode method_20_code 3 = .ok (.iload_n 1, 1) := by decide +kernel
theorem d_L_page_4 : decode method_20_code 4 = .ok (.iload_n 2, 1) := by decide +kernel
theorem d_L_page_5 : decode method_20_code 5 = .ok (.invokevirtual 74, 3) := by decide +kernel
theorem d_L_page_8 : decode method_20_code 8 = .ok (.i2l, 1) := by decide +kernel
theorem d_L_page_9 : decode method_20_code 9 = .ok (.lastore, 1) := by decide +kernel
theorem d_L_page_10 : decode method_20_code 10 = .ok (.goto 7, 3) := by decide +kernel
theorem d_L_page_13 : decode method_20_code 13 = .ok (.astore 4, 2) := by decide +kernel
theorem d_L_page_15 : decode method_20_code 15 = .ok (.iconst 1, 1) := by decide +kernel
theorem d_L_page_16 : decode method_20_code 16 = .ok (.ireturn, 1) := by decide +kernel
theorem d_L_page_17 : decode method_20_code 17 = .ok (.iconst 0, 1) := by decide +kernel
theorem d_L_page_18 : decode method_20_code 18 = .ok (.ireturn, 1) := by decide +kernel
theorem d_L_owner_0 : decode method_21_code 0 = .ok (.aload_n 2, 1) := by decide +kernel
theorem d_L_owner_1 : decode method_21_code 1 = .ok (.iconst 0, 1) := by decide +kernel
theorem d_L_owner_2 : decode method_21_code 2 = .ok (.aload_n 0, 1) := by decide +kernel
theorem d_L_owner_3 : decode method_21_code 3 = .ok (.iload_n 1, 1) := by decide +kernel
theorem d_L_owner_4 : decode method_21_code 4 = .ok (.invokevirtual 77, 3) := by decide +kernel
theorem d_L_owner_7 : decode method_21_code 7 = .ok (.i2l, 1) := by decide +kernel
theorem d_L_owner_8 : decode method_21_code 8 = .ok (.lastore, 1) := by decide +kernel
theorem d_L_owner_9 : decode method_21_code 9 = .ok (.goto 6, 3) := by decide +kernel
theorem d_L_owner_12 : decode method_21_code 12 = .ok (.astore_n 3, 1) := by decide +kernel
theorem d_L_owner_13 : decode method_21_code 13 = .ok (.iconst 1, 1) := by decide +kernel
theorem d_L_owner_14 : decode method_21_code 14 = .ok (.ireturn, 1) := by decide +kernel
theorem d_L_owner_15 : decode method_21_code 15 = .ok (.iconst 0, 1) := by decide +kernel
theorem d_L_owner_16 : decode method_21_code 16 = .ok (.ireturn, 1) := by decide +kernel
