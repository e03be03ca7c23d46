theorem d_T_init_0 : decode prog_3_method_1_code 0 = .ok (.aload_n 0, 1) := by decide +kernel
theorem d_T_init_1 : decode prog_3_method_1_code 1 = .ok (.invokespecial 3, 3) := by decide +kernel
theorem d_T_init_4 : decode prog_3_method_1_code 4 = .ok (.aload_n 0, 1) := by decide +kernel
theorem d_T_init_5 : decode prog_3_method_1_code 5 = .ok (.bipush 40, 2) := by decide +kernel
theorem d_T_init_7 : decode prog_3_method_1_code 7 = .ok (.newarray .int, 2) := by decide +kernel
theorem d_T_init_9 : decode prog_3_method_1_code 9 = .ok (.putfield 9, 3) := by decide +kernel
theorem d_T_init_12 : decode prog_3_method_1_code 12 = .ok (.aload_n 0, 1) := by decide +kernel
theorem d_T_init_13 : decode prog_3_method_1_code 13 = .ok (.bipush 40, 2) := by decide +kernel
theorem d_T_init_15 : decode prog_3_method_1_code 15 = .ok (.newarray .int, 2) := by decide +kernel
theorem d_T_init_17 : decode prog_3_method_1_code 17 = .ok (.putfield 15, 3) := by decide +kernel
theorem d_T_init_20 : decode prog_3_method_1_code 20 = .ok (.aload_n 0, 1) := by decide +kernel
theorem d_T_init_21 : decode prog_3_method_1_code 21 = .ok (.bipush 40, 2) := by decide +kernel
theorem d_T_init_23 : decode prog_3_method_1_code 23 = .ok (.newarray .int, 2) := by decide +kernel
theorem d_T_init_25 : decode prog_3_method_1_code 25 = .ok (.putfield 18, 3) := by decide +kernel
theorem d_T_init_28 : decode prog_3_method_1_code 28 = .ok (.aload_n 0, 1) := by decide +kernel
theorem d_T_init_29 : decode prog_3_method_1_code 29 = .ok (.bipush 40, 2) := by decide +kernel
theorem d_T_init_31 : decode prog_3_method_1_code 31 = .ok (.newarray .int, 2) := by decide +kernel
theorem d_T_init_33 : decode prog_3_method_1_code 33 = .ok (.putfield 21, 3) := by decide +kernel
theorem d_T_init_36 : decode prog_3_method_1_code 36 = .ok (.aload_n 0, 1) := by decide +kernel
theorem d_T_init_37 : decode prog_3_method_1_code 37 = .ok (.bipush 40, 2) := by decide +kernel
theorem d_T_init_39 : decode prog_3_method_1_code 39 = .ok (.newarray .int, 2) := by decide +kernel
theorem d_T_init_41 : decode prog_3_method_1_code 41 = .ok (.putfield 24, 3) := by decide +kernel
theorem d_T_init_44 : decode prog_3_method_1_code 44 = .ok (.aload_n 0, 1) := by decide +kernel
theorem d_T_init_45 : decode prog_3_method_1_code 45 = .ok (.getfield 9, 3) := by decide +kernel
theorem d_T_init_48 : decode prog_3_method_1_code 48 = .ok (.iconst 3, 1) := by decide +kernel
theorem d_T_init_49 : decode prog_3_method_1_code 49 = .ok (.invokestatic 27, 3) := by decide +kernel
theorem d_T_init_52 : decode prog_3_method_1_code 52 = .ok (.aload_n 0, 1) := by decide +kernel
theorem d_T_init_53 : decode prog_3_method_1_code 53 = .ok (.getfield 9, 3) := by decide +kernel
theorem d_T_init_56 : decode prog_3_method_1_code 56 = .ok (.iconst 0, 1) := by decide +kernel
theorem d_T_init_57 : decode prog_3_method_1_code 57 = .ok (.iconst 0, 1) := by decide +kernel
theorem d_T_init_58 : decode prog_3_method_1_code 58 = .ok (.iastore, 1) := by decide +kernel
theorem d_T_init_59 : decode prog_3_method_1_code 59 = .ok (.aload_n 0, 1) := by decide +kernel
theorem d_T_init_60 : decode prog_3_method_1_code 60 = .ok (.getfield 15, 3) := by decide +kernel
theorem d_T_init_63 : decode prog_3_method_1_code 63 = .ok (.iconst 0, 1) := by decide +kernel
theorem d_T_init_64 : decode prog_3_method_1_code 64 = .ok (.iconst (-1), 1) := by decide +kernel
theorem d_T_init_65 : decode prog_3_method_1_code 65 = .ok (.iastore, 1) := by decide +kernel
theorem d_T_init_66 : decode prog_3_method_1_code 66 = .ok (.aload_n 0, 1) := by decide +kernel
theorem d_T_init_67 : decode prog_3_method_1_code 67 = .ok (.getfield 18, 3) := by decide +kernel
theorem d_T_init_70 : decode prog_3_method_1_code 70 = .ok (.iconst 0, 1) := by decide +kernel
theorem d_T_init_71 : decode prog_3_method_1_code 71 = .ok (.sipush 192, 3) := by decide +kernel
theorem d_T_init_74 : decode prog_3_method_1_code 74 = .ok (.iastore, 1) := by decide +kernel
theorem d_T_init_75 : decode prog_3_method_1_code 75 = .ok (.return_, 1) := by decide +kernel
theorem d_T_isDying_0 : decode prog_3_method_3_code 0 = .ok (.aload_n 0, 1) := by decide +kernel
theorem d_T_isDying_1 : decode prog_3_method_3_code 1 = .ok (.getfield 9, 3) := by decide +kernel
theorem d_T_isDying_4 : decode prog_3_method_3_code 4 = .ok (.iload_n 1, 1) := by decide +kernel
theorem d_T_isDying_5 : decode prog_3_method_3_code 5 = .ok (.iaload, 1) := by decide +kernel
theorem d_T_isDying_6 : decode prog_3_method_3_code 6 = .ok (.iconst 2, 1) := by decide +kernel
theorem d_T_isDying_7 : decode prog_3_method_3_code 7 = .ok (.if_icmp .ne 7, 3) := by decide +kernel
theorem d_T_isDying_10 : decode prog_3_method_3_code 10 = .ok (.iconst 1, 1) := by decide +kernel
theorem d_T_isDying_11 : decode prog_3_method_3_code 11 = .ok (.goto 4, 3) := by decide +kernel
theorem d_T_isDying_14 : decode prog_3_method_3_code 14 = .ok (.iconst 0, 1) := by decide +kernel
theorem d_T_isDying_15 : decode prog_3_method_3_code 15 = .ok (.ireturn, 1) := by decide +kernel
theorem d_T_subtreeSize_0 : decode prog_3_method_13_code 0 = .ok (.iconst 0, 1) := by decide +kernel
theorem d_T_subtreeSize_1 : decode prog_3_method_13_code 1 = .ok (.istore_n 2, 1) := by decide +kernel
theorem d_T_subtreeSize_2 : decode prog_3_method_13_code 2 = .ok (.iconst 0, 1) := by decide +kernel
theorem d_T_subtreeSize_3 : decode prog_3_method_13_code 3 = .ok (.istore_n 3, 1) := by decide +kernel
theorem d_T_subtreeSize_4 : decode prog_3_method_13_code 4 = .ok (.iload_n 3, 1) := by decide +kernel
theorem d_T_subtreeSize_5 : decode prog_3_method_13_code 5 = .ok (.bipush 40, 2) := by decide +kernel
theorem d_T_subtreeSize_7 : decode prog_3_method_13_code 7 = .ok (.if_icmp .ge 29, 3) := by decide +kernel
theorem d_T_subtreeSize_10 : decode prog_3_method_13_code 10 = .ok (.aload_n 0, 1) := by decide +kernel
theorem d_T_subtreeSize_11 : decode prog_3_method_13_code 11 = .ok (.iload_n 3, 1) := by decide +kernel
theorem d_T_subtreeSize_12 : decode prog_3_method_13_code 12 = .ok (.invokevirtual 33, 3) := by decide +kernel
theorem d_T_subtreeSize_15 : decode prog_3_method_13_code 15 = .ok (.ifCond .eq 15, 3) := by decide +kernel
theorem d_T_subtreeSize_18 : decode prog_3_method_13_code 18 = .ok (.aload_n 0, 1) := by decide +kernel
theorem d_T_subtreeSize_19 : decode prog_3_method_13_code 19 = .ok (.iload_n 3, 1) := by decide +kernel
theorem d_T_subtreeSize_20 : decode prog_3_method_13_code 20 = .ok (.iload_n 1, 1) := by decide +kernel
theorem d_T_subtreeSize_21 : decode prog_3_method_13_code 21 = .ok (.invokevirtual 37, 3) := by decide +kernel
theorem d_T_subtreeSize_24 : decode prog_3_method_13_code 24 = .ok (.ifCond .eq 6, 3) := by decide +kernel
theorem d_T_subtreeSize_27 : decode prog_3_method_13_code 27 = .ok (.iinc 2 1, 3) := by decide +kernel
theorem d_T_subtreeSize_30 : decode prog_3_method_13_code 30 = .ok (.iinc 3 1, 3) := by decide +kernel
theorem d_T_subtreeSize_33 : decode prog_3_method_13_code 33 = .ok (.goto (-29), 3) := by decide +kernel
theorem d_T_subtreeSize_36 : decode prog_3_method_13_code 36 = .ok (.iload_n 2, 1) := by decide +kernel
theorem d_T_subtreeSize_37 : decode prog_3_method_13_code 37 = .ok (.ireturn, 1) := by decide +kernel
theorem d_T_isBank_0 : decode prog_3_method_2_code 0 = .ok (.iload_n 1, 1) := by decide +kernel
theorem d_T_isBank_1 : decode prog_3_method_2_code 1 = .ok (.ifCond .lt 23, 3) := by decide +kernel
theorem d_T_isBank_4 : decode prog_3_method_2_code 4 = .ok (.iload_n 1, 1) := by decide +kernel
theorem d_T_isBank_5 : decode prog_3_method_2_code 5 = .ok (.bipush 40, 2) := by decide +kernel
theorem d_T_isBank_7 : decode prog_3_method_2_code 7 = .ok (.if_icmp .ge 17, 3) := by decide +kernel
theorem d_T_isBank_10 : decode prog_3_method_2_code 10 = .ok (.aload_n 0, 1) := by decide +kernel
theorem d_T_isBank_11 : decode prog_3_method_2_code 11 = .ok (.getfield 9, 3) := by decide +kernel
theorem d_T_isBank_14 : decode prog_3_method_2_code 14 = .ok (.iload_n 1, 1) := by decide +kernel
theorem d_T_isBank_15 : decode prog_3_method_2_code 15 = .ok (.iaload, 1) := by decide +kernel
theorem d_T_isBank_16 : decode prog_3_method_2_code 16 = .ok (.iconst 3, 1) := by decide +kernel
theorem d_T_isBank_17 : decode prog_3_method_2_code 17 = .ok (.if_icmp .eq 7, 3) := by decide +kernel
theorem d_T_isBank_20 : decode prog_3_method_2_code 20 = .ok (.iconst 1, 1) := by decide +kernel
theorem d_T_isBank_21 : decode prog_3_method_2_code 21 = .ok (.goto 4, 3) := by decide +kernel
theorem d_T_isBank_24 : decode prog_3_method_2_code 24 = .ok (.iconst 0, 1) := by decide +kernel
theorem d_T_isBank_25 : decode prog_3_method_2_code 25 = .ok (.ireturn, 1) := by decide +kernel
theorem d_T_isWithin_0 : decode prog_3_method_12_code 0 = .ok (.iload_n 1, 1) := by decide +kernel
theorem d_T_isWithin_1 : decode prog_3_method_12_code 1 = .ok (.istore_n 3, 1) := by decide +kernel
theorem d_T_isWithin_2 : decode prog_3_method_12_code 2 = .ok (.iconst 0, 1) := by decide +kernel
theorem d_T_isWithin_3 : decode prog_3_method_12_code 3 = .ok (.istore 4, 2) := by decide +kernel
theorem d_T_isWithin_5 : decode prog_3_method_12_code 5 = .ok (.iload 4, 2) := by decide +kernel
theorem d_T_isWithin_7 : decode prog_3_method_12_code 7 = .ok (.bipush 6, 2) := by decide +kernel
theorem d_T_isWithin_9 : decode prog_3_method_12_code 9 = .ok (.if_icmp .gt 28, 3) := by decide +kernel
theorem d_T_isWithin_12 : decode prog_3_method_12_code 12 = .ok (.iload_n 3, 1) := by decide +kernel
theorem d_T_isWithin_13 : decode prog_3_method_12_code 13 = .ok (.iconst (-1), 1) := by decide +kernel
theorem d_T_isWithin_14 : decode prog_3_method_12_code 14 = .ok (.if_icmp .eq 23, 3) := by decide +kernel
theorem d_T_isWithin_17 : decode prog_3_method_12_code 17 = .ok (.iload_n 3, 1) := by decide +kernel
theorem d_T_isWithin_18 : decode prog_3_method_12_code 18 = .ok (.iload_n 2, 1) := by decide +kernel
theorem d_T_isWithin_19 : decode prog_3_method_12_code 19 = .ok (.if_icmp .ne 5, 3) := by decide +kernel
theorem d_T_isWithin_22 : decode prog_3_method_12_code 22 = .ok (.iconst 1, 1) := by decide +kernel
theorem d_T_isWithin_23 : decode prog_3_method_12_code 23 = .ok (.ireturn, 1) := by decide +kernel
theorem d_T_isWithin_24 : decode prog_3_method_12_code 24 = .ok (.aload_n 0, 1) := by decide +kernel
theorem d_T_isWithin_25 : decode prog_3_method_12_code 25 = .ok (.getfield 15, 3) := by decide +kernel
theorem d_T_isWithin_28 : decode prog_3_method_12_code 28 = .ok (.iload_n 3, 1) := by decide +kernel
theorem d_T_isWithin_29 : decode prog_3_method_12_code 29 = .ok (.iaload, 1) := by decide +kernel
theorem d_T_isWithin_30 : decode prog_3_method_12_code 30 = .ok (.istore_n 3, 1) := by decide +kernel
theorem d_T_isWithin_31 : decode prog_3_method_12_code 31 = .ok (.iinc 4 1, 3) := by decide +kernel
theorem d_T_isWithin_34 : decode prog_3_method_12_code 34 = .ok (.goto (-29), 3) := by decide +kernel
theorem d_T_isWithin_37 : decode prog_3_method_12_code 37 = .ok (.iconst 0, 1) := by decide +kernel
theorem d_T_isWithin_38 : decode prog_3_method_12_code 38 = .ok (.ireturn, 1) := by decide +kernel
theorem d_T_isStray_0 : decode prog_3_method_22_code 0 = .ok (.iload_n 2, 1) := by decide +kernel
theorem d_T_isStray_1 : decode prog_3_method_22_code 1 = .ok (.aload_n 0, 1) := by decide +kernel
theorem d_T_isStray_2 : decode prog_3_method_22_code 2 = .ok (.getfield 21, 3) := by decide +kernel
theorem d_T_isStray_5 : decode prog_3_method_22_code 5 = .ok (.iload_n 1, 1) := by decide +kernel
theorem d_T_isStray_6 : decode prog_3_method_22_code 6 = .ok (.iaload, 1) := by decide +kernel
theorem d_T_isStray_7 : decode prog_3_method_22_code 7 = .ok (.iadd, 1) := by decide +kernel
theorem d_T_isStray_8 : decode prog_3_method_22_code 8 = .ok (.istore_n 3, 1) := by decide +kernel
theorem d_T_isStray_9 : decode prog_3_method_22_code 9 = .ok (.iconst 0, 1) := by decide +kernel
theorem d_T_isStray_10 : decode prog_3_method_22_code 10 = .ok (.istore 4, 2) := by decide +kernel
theorem d_T_isStray_12 : decode prog_3_method_22_code 12 = .ok (.iload 4, 2) := by decide +kernel
theorem d_T_isStray_14 : decode prog_3_method_22_code 14 = .ok (.bipush 40, 2) := by decide +kernel
theorem d_T_isStray_16 : decode prog_3_method_22_code 16 = .ok (.if_icmp .ge 39, 3) := by decide +kernel
theorem d_T_isStray_19 : decode prog_3_method_22_code 19 = .ok (.aload_n 0, 1) := by decide +kernel
theorem d_T_isStray_20 : decode prog_3_method_22_code 20 = .ok (.iload 4, 2) := by decide +kernel
theorem d_T_isStray_22 : decode prog_3_method_22_code 22 = .ok (.invokevirtual 33, 3) := by decide +kernel
theorem d_T_isStray_25 : decode prog_3_method_22_code 25 = .ok (.ifCond .eq 24, 3) := by decide +kernel
theorem d_T_isStray_28 : decode prog_3_method_22_code 28 = .ok (.aload_n 0, 1) := by decide +kernel
theorem d_T_isStray_29 : decode prog_3_method_22_code 29 = .ok (.getfield 15, 3) := by decide +kernel
theorem d_T_isStray_32 : decode prog_3_method_22_code 32 = .ok (.iload 4, 2) := by decide +kernel
theorem d_T_isStray_34 : decode prog_3_method_22_code 34 = .ok (.iaload, 1) := by decide +kernel
theorem d_T_isStray_35 : decode prog_3_method_22_code 35 = .ok (.iload_n 1, 1) := by decide +kernel
theorem d_T_isStray_36 : decode prog_3_method_22_code 36 = .ok (.if_icmp .ne 13, 3) := by decide +kernel
theorem d_T_isStray_39 : decode prog_3_method_22_code 39 = .ok (.iload_n 3, 1) := by decide +kernel
theorem d_T_isStray_40 : decode prog_3_method_22_code 40 = .ok (.aload_n 0, 1) := by decide +kernel
theorem d_T_isStray_41 : decode prog_3_method_22_code 41 = .ok (.getfield 24, 3) := by decide +kernel
theorem d_T_isStray_44 : decode prog_3_method_22_code 44 = .ok (.iload 4, 2) := by decide +kernel
theorem d_T_isStray_46 : decode prog_3_method_22_code 46 = .ok (.iaload, 1) := by decide +kernel
theorem d_T_isStray_47 : decode prog_3_method_22_code 47 = .ok (.iadd, 1) := by decide +kernel
theorem d_T_isStray_48 : decode prog_3_method_22_code 48 = .ok (.istore_n 3, 1) := by decide +kernel
theorem d_T_isStray_49 : decode prog_3_method_22_code 49 = .ok (.iinc 4 1, 3) := by decide +kernel
theorem d_T_isStray_52 : decode prog_3_method_22_code 52 = .ok (.goto (-40), 3) := by decide +kernel
theorem d_T_isStray_55 : decode prog_3_method_22_code 55 = .ok (.iload_n 3, 1) := by decide +kernel
theorem d_T_isStray_56 : decode prog_3_method_22_code 56 = .ok (.aload_n 0, 1) := by decide +kernel
theorem d_T_isStray_57 : decode prog_3_method_22_code 57 = .ok (.getfield 24, 3) := by decide +kernel
theorem d_T_isStray_60 : decode prog_3_method_22_code 60 = .ok (.iload_n 1, 1) := by decide +kernel
theorem d_T_isStray_61 : decode prog_3_method_22_code 61 = .ok (.iaload, 1) := by decide +kernel
theorem d_T_isStray_62 : decode prog_3_method_22_code 62 = .ok (.if_icmp .ne 27, 3) := by decide +kernel
theorem d_T_isStray_65 : decode prog_3_method_22_code 65 = .ok (.aload_n 0, 1) := by decide +kernel
theorem d_T_isStray_66 : decode prog_3_method_22_code 66 = .ok (.getfield 24, 3) := by decide +kernel
theorem d_T_isStray_69 : decode prog_3_method_22_code 69 = .ok (.iload_n 1, 1) := by decide +kernel
theorem d_T_isStray_70 : decode prog_3_method_22_code 70 = .ok (.iaload, 1) := by decide +kernel
theorem d_T_isStray_71 : decode prog_3_method_22_code 71 = .ok (.aload_n 0, 1) := by decide +kernel
theorem d_T_isStray_72 : decode prog_3_method_22_code 72 = .ok (.getfield 18, 3) := by decide +kernel
theorem d_T_isStray_75 : decode prog_3_method_22_code 75 = .ok (.iload_n 1, 1) := by decide +kernel
theorem d_T_isStray_76 : decode prog_3_method_22_code 76 = .ok (.iaload, 1) := by decide +kernel
theorem d_T_isStray_77 : decode prog_3_method_22_code 77 = .ok (.if_icmp .gt 12, 3) := by decide +kernel
theorem d_T_isStray_80 : decode prog_3_method_22_code 80 = .ok (.aload_n 0, 1) := by decide +kernel
theorem d_T_isStray_81 : decode prog_3_method_22_code 81 = .ok (.iload_n 1, 1) := by decide +kernel
theorem d_T_isStray_82 : decode prog_3_method_22_code 82 = .ok (.iconst 0, 1) := by decide +kernel
theorem d_T_isStray_83 : decode prog_3_method_22_code 83 = .ok (.invokevirtual 37, 3) := by decide +kernel
theorem d_T_isStray_86 : decode prog_3_method_22_code 86 = .ok (.ifCond .ne 7, 3) := by decide +kernel
theorem d_T_isStray_89 : decode prog_3_method_22_code 89 = .ok (.iconst 1, 1) := by decide +kernel
theorem d_T_isStray_90 : decode prog_3_method_22_code 90 = .ok (.goto 4, 3) := by decide +kernel
theorem d_T_isStray_93 : decode prog_3_method_22_code 93 = .ok (.iconst 0, 1) := by decide +kernel
theorem d_T_isStray_94 : decode prog_3_method_22_code 94 = .ok (.ireturn, 1) := by decide +kernel
theorem d_T_stateOf_0 : decode prog_3_method_4_code 0 = .ok (.aload_n 0, 1) := by decide +kernel
theorem d_T_stateOf_1 : decode prog_3_method_4_code 1 = .ok (.getfield 9, 3) := by decide +kernel
theorem d_T_stateOf_4 : decode prog_3_method_4_code 4 = .ok (.iload_n 1, 1) := by decide +kernel
theorem d_T_stateOf_5 : decode prog_3_method_4_code 5 = .ok (.iaload, 1) := by decide +kernel
theorem d_T_stateOf_6 : decode prog_3_method_4_code 6 = .ok (.ireturn, 1) := by decide +kernel
theorem d_T_leastUnusedNumber_0 : decode prog_3_method_9_code 0 = .ok (.iconst 1, 1) := by decide +kernel
theorem d_T_leastUnusedNumber_1 : decode prog_3_method_9_code 1 = .ok (.istore_n 1, 1) := by decide +kernel
theorem d_T_leastUnusedNumber_2 : decode prog_3_method_9_code 2 = .ok (.iload_n 1, 1) := by decide +kernel
theorem d_T_leastUnusedNumber_3 : decode prog_3_method_9_code 3 = .ok (.bipush 40, 2) := by decide +kernel
theorem d_T_leastUnusedNumber_5 : decode prog_3_method_9_code 5 = .ok (.if_icmp .ge 21, 3) := by decide +kernel
theorem d_T_leastUnusedNumber_8 : decode prog_3_method_9_code 8 = .ok (.aload_n 0, 1) := by decide +kernel
theorem d_T_leastUnusedNumber_9 : decode prog_3_method_9_code 9 = .ok (.getfield 9, 3) := by decide +kernel
theorem d_T_leastUnusedNumber_12 : decode prog_3_method_9_code 12 = .ok (.iload_n 1, 1) := by decide +kernel
theorem d_T_leastUnusedNumber_13 : decode prog_3_method_9_code 13 = .ok (.iaload, 1) := by decide +kernel
theorem d_T_leastUnusedNumber_14 : decode prog_3_method_9_code 14 = .ok (.iconst 3, 1) := by decide +kernel
theorem d_T_leastUnusedNumber_15 : decode prog_3_method_9_code 15 = .ok (.if_icmp .ne 5, 3) := by decide +kernel
theorem d_T_leastUnusedNumber_18 : decode prog_3_method_9_code 18 = .ok (.iload_n 1, 1) := by decide +kernel
theorem d_T_leastUnusedNumber_19 : decode prog_3_method_9_code 19 = .ok (.ireturn, 1) := by decide +kernel
theorem d_T_leastUnusedNumber_20 : decode prog_3_method_9_code 20 = .ok (.iinc 1 1, 3) := by decide +kernel
theorem d_T_leastUnusedNumber_23 : decode prog_3_method_9_code 23 = .ok (.goto (-21), 3) := by decide +kernel
theorem d_T_leastUnusedNumber_26 : decode prog_3_method_9_code 26 = .ok (.iconst (-1), 1) := by decide +kernel
theorem d_T_leastUnusedNumber_27 : decode prog_3_method_9_code 27 = .ok (.ireturn, 1) := by decide +kernel
theorem d_T_depthOf_0 : decode prog_3_method_11_code 0 = .ok (.iconst 0, 1) := by decide +kernel
theorem d_T_depthOf_1 : decode prog_3_method_11_code 1 = .ok (.istore_n 2, 1) := by decide +kernel
theorem d_T_depthOf_2 : decode prog_3_method_11_code 2 = .ok (.aload_n 0, 1) := by decide +kernel
theorem d_T_depthOf_3 : decode prog_3_method_11_code 3 = .ok (.getfield 15, 3) := by decide +kernel
theorem d_T_depthOf_6 : decode prog_3_method_11_code 6 = .ok (.iload_n 1, 1) := by decide +kernel
theorem d_T_depthOf_7 : decode prog_3_method_11_code 7 = .ok (.iaload, 1) := by decide +kernel
theorem d_T_depthOf_8 : decode prog_3_method_11_code 8 = .ok (.istore_n 3, 1) := by decide +kernel
theorem d_T_depthOf_9 : decode prog_3_method_11_code 9 = .ok (.iload_n 3, 1) := by decide +kernel
theorem d_T_depthOf_10 : decode prog_3_method_11_code 10 = .ok (.iconst (-1), 1) := by decide +kernel
theorem d_T_depthOf_11 : decode prog_3_method_11_code 11 = .ok (.if_icmp .eq 22, 3) := by decide +kernel
theorem d_T_depthOf_14 : decode prog_3_method_11_code 14 = .ok (.iload_n 2, 1) := by decide +kernel
theorem d_T_depthOf_15 : decode prog_3_method_11_code 15 = .ok (.bipush 6, 2) := by decide +kernel
theorem d_T_depthOf_17 : decode prog_3_method_11_code 17 = .ok (.if_icmp .gt 16, 3) := by decide +kernel
theorem d_T_depthOf_20 : decode prog_3_method_11_code 20 = .ok (.iinc 2 1, 3) := by decide +kernel
theorem d_T_depthOf_23 : decode prog_3_method_11_code 23 = .ok (.aload_n 0, 1) := by decide +kernel
theorem d_T_depthOf_24 : decode prog_3_method_11_code 24 = .ok (.getfield 15, 3) := by decide +kernel
theorem d_T_depthOf_27 : decode prog_3_method_11_code 27 = .ok (.iload_n 3, 1) := by decide +kernel
theorem d_T_depthOf_28 : decode prog_3_method_11_code 28 = .ok (.iaload, 1) := by decide +kernel
theorem d_T_depthOf_29 : decode prog_3_method_11_code 29 = .ok (.istore_n 3, 1) := by decide +kernel
theorem d_T_depthOf_30 : decode prog_3_method_11_code 30 = .ok (.goto (-21), 3) := by decide +kernel
theorem d_T_depthOf_33 : decode prog_3_method_11_code 33 = .ok (.iload_n 2, 1) := by decide +kernel
theorem d_T_depthOf_34 : decode prog_3_method_11_code 34 = .ok (.ireturn, 1) := by decide +kernel
theorem d_T_open_0 : decode prog_3_method_10_code 0 = .ok (.aload_n 0, 1) := by decide +kernel
theorem d_T_open_1 : decode prog_3_method_10_code 1 = .ok (.getfield 9, 3) := by decide +kernel
theorem d_T_open_4 : decode prog_3_method_10_code 4 = .ok (.iload_n 1, 1) := by decide +kernel
theorem d_T_open_5 : decode prog_3_method_10_code 5 = .ok (.iconst 0, 1) := by decide +kernel
theorem d_T_open_6 : decode prog_3_method_10_code 6 = .ok (.iastore, 1) := by decide +kernel
theorem d_T_open_7 : decode prog_3_method_10_code 7 = .ok (.aload_n 0, 1) := by decide +kernel
theorem d_T_open_8 : decode prog_3_method_10_code 8 = .ok (.getfield 15, 3) := by decide +kernel
theorem d_T_open_11 : decode prog_3_method_10_code 11 = .ok (.iload_n 1, 1) := by decide +kernel
theorem d_T_open_12 : decode prog_3_method_10_code 12 = .ok (.iload_n 2, 1) := by decide +kernel
theorem d_T_open_13 : decode prog_3_method_10_code 13 = .ok (.iastore, 1) := by decide +kernel
theorem d_T_open_14 : decode prog_3_method_10_code 14 = .ok (.aload_n 0, 1) := by decide +kernel
theorem d_T_open_15 : decode prog_3_method_10_code 15 = .ok (.getfield 18, 3) := by decide +kernel
theorem d_T_open_18 : decode prog_3_method_10_code 18 = .ok (.iload_n 1, 1) := by decide +kernel
theorem d_T_open_19 : decode prog_3_method_10_code 19 = .ok (.iload_n 3, 1) := by decide +kernel
theorem d_T_open_20 : decode prog_3_method_10_code 20 = .ok (.iastore, 1) := by decide +kernel
theorem d_T_open_21 : decode prog_3_method_10_code 21 = .ok (.aload_n 0, 1) := by decide +kernel
theorem d_T_open_22 : decode prog_3_method_10_code 22 = .ok (.getfield 21, 3) := by decide +kernel
theorem d_T_open_25 : decode prog_3_method_10_code 25 = .ok (.iload_n 1, 1) := by decide +kernel
theorem d_T_open_26 : decode prog_3_method_10_code 26 = .ok (.iconst 0, 1) := by decide +kernel
theorem d_T_open_27 : decode prog_3_method_10_code 27 = .ok (.iastore, 1) := by decide +kernel
theorem d_T_open_28 : decode prog_3_method_10_code 28 = .ok (.aload_n 0, 1) := by decide +kernel
theorem d_T_open_29 : decode prog_3_method_10_code 29 = .ok (.getfield 24, 3) := by decide +kernel
theorem d_T_open_32 : decode prog_3_method_10_code 32 = .ok (.iload_n 1, 1) := by decide +kernel
theorem d_T_open_33 : decode prog_3_method_10_code 33 = .ok (.iconst 0, 1) := by decide +kernel
theorem d_T_open_34 : decode prog_3_method_10_code 34 = .ok (.iastore, 1) := by decide +kernel
theorem d_T_open_35 : decode prog_3_method_10_code 35 = .ok (.return_, 1) := by decide +kernel
theorem d_T_reservedBy_0 : decode prog_3_method_7_code 0 = .ok (.aload_n 0, 1) := by decide +kernel
theorem d_T_reservedBy_1 : decode prog_3_method_7_code 1 = .ok (.getfield 21, 3) := by decide +kernel
theorem d_T_reservedBy_4 : decode prog_3_method_7_code 4 = .ok (.iload_n 1, 1) := by decide +kernel
theorem d_T_reservedBy_5 : decode prog_3_method_7_code 5 = .ok (.iaload, 1) := by decide +kernel
theorem d_T_reservedBy_6 : decode prog_3_method_7_code 6 = .ok (.ireturn, 1) := by decide +kernel
theorem d_T_refuserOf_0 : decode prog_3_method_14_code 0 = .ok (.iload_n 1, 1) := by decide +kernel
theorem d_T_refuserOf_1 : decode prog_3_method_14_code 1 = .ok (.istore_n 3, 1) := by decide +kernel
theorem d_T_refuserOf_2 : decode prog_3_method_14_code 2 = .ok (.iconst 0, 1) := by decide +kernel
theorem d_T_refuserOf_3 : decode prog_3_method_14_code 3 = .ok (.istore 4, 2) := by decide +kernel
theorem d_T_refuserOf_5 : decode prog_3_method_14_code 5 = .ok (.iload 4, 2) := by decide +kernel
theorem d_T_refuserOf_7 : decode prog_3_method_14_code 7 = .ok (.bipush 6, 2) := by decide +kernel
theorem d_T_refuserOf_9 : decode prog_3_method_14_code 9 = .ok (.if_icmp .gt 40, 3) := by decide +kernel
theorem d_T_refuserOf_12 : decode prog_3_method_14_code 12 = .ok (.iload_n 3, 1) := by decide +kernel
theorem d_T_refuserOf_13 : decode prog_3_method_14_code 13 = .ok (.iconst (-1), 1) := by decide +kernel
theorem d_T_refuserOf_14 : decode prog_3_method_14_code 14 = .ok (.if_icmp .eq 35, 3) := by decide +kernel
theorem d_T_refuserOf_17 : decode prog_3_method_14_code 17 = .ok (.aload_n 0, 1) := by decide +kernel
theorem d_T_refuserOf_18 : decode prog_3_method_14_code 18 = .ok (.getfield 24, 3) := by decide +kernel
theorem d_T_refuserOf_21 : decode prog_3_method_14_code 21 = .ok (.iload_n 3, 1) := by decide +kernel
theorem d_T_refuserOf_22 : decode prog_3_method_14_code 22 = .ok (.iaload, 1) := by decide +kernel
theorem d_T_refuserOf_23 : decode prog_3_method_14_code 23 = .ok (.iload_n 2, 1) := by decide +kernel
theorem d_T_refuserOf_24 : decode prog_3_method_14_code 24 = .ok (.iadd, 1) := by decide +kernel
theorem d_T_refuserOf_25 : decode prog_3_method_14_code 25 = .ok (.aload_n 0, 1) := by decide +kernel
theorem d_T_refuserOf_26 : decode prog_3_method_14_code 26 = .ok (.getfield 18, 3) := by decide +kernel
theorem d_T_refuserOf_29 : decode prog_3_method_14_code 29 = .ok (.iload_n 3, 1) := by decide +kernel
theorem d_T_refuserOf_30 : decode prog_3_method_14_code 30 = .ok (.iaload, 1) := by decide +kernel
theorem d_T_refuserOf_31 : decode prog_3_method_14_code 31 = .ok (.if_icmp .le 5, 3) := by decide +kernel
theorem d_T_refuserOf_34 : decode prog_3_method_14_code 34 = .ok (.iload_n 3, 1) := by decide +kernel
theorem d_T_refuserOf_35 : decode prog_3_method_14_code 35 = .ok (.ireturn, 1) := by decide +kernel
theorem d_T_refuserOf_36 : decode prog_3_method_14_code 36 = .ok (.aload_n 0, 1) := by decide +kernel
theorem d_T_refuserOf_37 : decode prog_3_method_14_code 37 = .ok (.getfield 15, 3) := by decide +kernel
theorem d_T_refuserOf_40 : decode prog_3_method_14_code 40 = .ok (.iload_n 3, 1) := by decide +kernel
theorem d_T_refuserOf_41 : decode prog_3_method_14_code 41 = .ok (.iaload, 1) := by decide +kernel
theorem d_T_refuserOf_42 : decode prog_3_method_14_code 42 = .ok (.istore_n 3, 1) := by decide +kernel
theorem d_T_refuserOf_43 : decode prog_3_method_14_code 43 = .ok (.iinc 4 1, 3) := by decide +kernel
theorem d_T_refuserOf_46 : decode prog_3_method_14_code 46 = .ok (.goto (-41), 3) := by decide +kernel
theorem d_T_refuserOf_49 : decode prog_3_method_14_code 49 = .ok (.iconst (-1), 1) := by decide +kernel
theorem d_T_refuserOf_50 : decode prog_3_method_14_code 50 = .ok (.ireturn, 1) := by decide +kernel
theorem d_T_addReserved_0 : decode prog_3_method_16_code 0 = .ok (.aload_n 0, 1) := by decide +kernel
theorem d_T_addReserved_1 : decode prog_3_method_16_code 1 = .ok (.getfield 21, 3) := by decide +kernel
theorem d_T_addReserved_4 : decode prog_3_method_16_code 4 = .ok (.iload_n 1, 1) := by decide +kernel
theorem d_T_addReserved_5 : decode prog_3_method_16_code 5 = .ok (.dup2, 1) := by decide +kernel
theorem d_T_addReserved_6 : decode prog_3_method_16_code 6 = .ok (.iaload, 1) := by decide +kernel
theorem d_T_addReserved_7 : decode prog_3_method_16_code 7 = .ok (.iload_n 2, 1) := by decide +kernel
theorem d_T_addReserved_8 : decode prog_3_method_16_code 8 = .ok (.iadd, 1) := by decide +kernel
theorem d_T_addReserved_9 : decode prog_3_method_16_code 9 = .ok (.iastore, 1) := by decide +kernel
theorem d_T_addReserved_10 : decode prog_3_method_16_code 10 = .ok (.return_, 1) := by decide +kernel
theorem d_T_addUse_0 : decode prog_3_method_15_code 0 = .ok (.iload_n 1, 1) := by decide +kernel
theorem d_T_addUse_1 : decode prog_3_method_15_code 1 = .ok (.istore_n 3, 1) := by decide +kernel
theorem d_T_addUse_2 : decode prog_3_method_15_code 2 = .ok (.iconst 0, 1) := by decide +kernel
theorem d_T_addUse_3 : decode prog_3_method_15_code 3 = .ok (.istore 4, 2) := by decide +kernel
theorem d_T_addUse_5 : decode prog_3_method_15_code 5 = .ok (.iload 4, 2) := by decide +kernel
theorem d_T_addUse_7 : decode prog_3_method_15_code 7 = .ok (.bipush 6, 2) := by decide +kernel
theorem d_T_addUse_9 : decode prog_3_method_15_code 9 = .ok (.if_icmp .gt 31, 3) := by decide +kernel
theorem d_T_addUse_12 : decode prog_3_method_15_code 12 = .ok (.iload_n 3, 1) := by decide +kernel
theorem d_T_addUse_13 : decode prog_3_method_15_code 13 = .ok (.iconst (-1), 1) := by decide +kernel
theorem d_T_addUse_14 : decode prog_3_method_15_code 14 = .ok (.if_icmp .eq 26, 3) := by decide +kernel
theorem d_T_addUse_17 : decode prog_3_method_15_code 17 = .ok (.aload_n 0, 1) := by decide +kernel
theorem d_T_addUse_18 : decode prog_3_method_15_code 18 = .ok (.getfield 24, 3) := by decide +kernel
theorem d_T_addUse_21 : decode prog_3_method_15_code 21 = .ok (.iload_n 3, 1) := by decide +kernel
theorem d_T_addUse_22 : decode prog_3_method_15_code 22 = .ok (.dup2, 1) := by decide +kernel
theorem d_T_addUse_23 : decode prog_3_method_15_code 23 = .ok (.iaload, 1) := by decide +kernel
theorem d_T_addUse_24 : decode prog_3_method_15_code 24 = .ok (.iload_n 2, 1) := by decide +kernel
theorem d_T_addUse_25 : decode prog_3_method_15_code 25 = .ok (.iadd, 1) := by decide +kernel
theorem d_T_addUse_26 : decode prog_3_method_15_code 26 = .ok (.iastore, 1) := by decide +kernel
theorem d_T_addUse_27 : decode prog_3_method_15_code 27 = .ok (.aload_n 0, 1) := by decide +kernel
theorem d_T_addUse_28 : decode prog_3_method_15_code 28 = .ok (.getfield 15, 3) := by decide +kernel
theorem d_T_addUse_31 : decode prog_3_method_15_code 31 = .ok (.iload_n 3, 1) := by decide +kernel
theorem d_T_addUse_32 : decode prog_3_method_15_code 32 = .ok (.iaload, 1) := by decide +kernel
theorem d_T_addUse_33 : decode prog_3_method_15_code 33 = .ok (.istore_n 3, 1) := by decide +kernel
theorem d_T_addUse_34 : decode prog_3_method_15_code 34 = .ok (.iinc 4 1, 3) := by decide +kernel
theorem d_T_addUse_37 : decode prog_3_method_15_code 37 = .ok (.goto (-32), 3) := by decide +kernel
theorem d_T_addUse_40 : decode prog_3_method_15_code 40 = .ok (.return_, 1) := by decide +kernel
theorem d_T_useOf_0 : decode prog_3_method_8_code 0 = .ok (.aload_n 0, 1) := by decide +kernel
theorem d_T_useOf_1 : decode prog_3_method_8_code 1 = .ok (.getfield 24, 3) := by decide +kernel
theorem d_T_useOf_4 : decode prog_3_method_8_code 4 = .ok (.iload_n 1, 1) := by decide +kernel
theorem d_T_useOf_5 : decode prog_3_method_8_code 5 = .ok (.iaload, 1) := by decide +kernel
theorem d_T_useOf_6 : decode prog_3_method_8_code 6 = .ok (.ireturn, 1) := by decide +kernel
theorem d_T_replaceLimit_0 : decode prog_3_method_17_code 0 = .ok (.aload_n 0, 1) := by decide +kernel
theorem d_T_replaceLimit_1 : decode prog_3_method_17_code 1 = .ok (.getfield 18, 3) := by decide +kernel
theorem d_T_replaceLimit_4 : decode prog_3_method_17_code 4 = .ok (.iload_n 1, 1) := by decide +kernel
theorem d_T_replaceLimit_5 : decode prog_3_method_17_code 5 = .ok (.iaload, 1) := by decide +kernel
theorem d_T_replaceLimit_6 : decode prog_3_method_17_code 6 = .ok (.istore_n 3, 1) := by decide +kernel
theorem d_T_replaceLimit_7 : decode prog_3_method_17_code 7 = .ok (.aload_n 0, 1) := by decide +kernel
theorem d_T_replaceLimit_8 : decode prog_3_method_17_code 8 = .ok (.getfield 18, 3) := by decide +kernel
theorem d_T_replaceLimit_11 : decode prog_3_method_17_code 11 = .ok (.iload_n 1, 1) := by decide +kernel
theorem d_T_replaceLimit_12 : decode prog_3_method_17_code 12 = .ok (.iload_n 2, 1) := by decide +kernel
theorem d_T_replaceLimit_13 : decode prog_3_method_17_code 13 = .ok (.iastore, 1) := by decide +kernel
theorem d_T_replaceLimit_14 : decode prog_3_method_17_code 14 = .ok (.iload_n 3, 1) := by decide +kernel
theorem d_T_replaceLimit_15 : decode prog_3_method_17_code 15 = .ok (.ireturn, 1) := by decide +kernel
theorem d_T_replaceState_0 : decode prog_3_method_18_code 0 = .ok (.aload_n 0, 1) := by decide +kernel
theorem d_T_replaceState_1 : decode prog_3_method_18_code 1 = .ok (.getfield 9, 3) := by decide +kernel
theorem d_T_replaceState_4 : decode prog_3_method_18_code 4 = .ok (.iload_n 1, 1) := by decide +kernel
theorem d_T_replaceState_5 : decode prog_3_method_18_code 5 = .ok (.iaload, 1) := by decide +kernel
theorem d_T_replaceState_6 : decode prog_3_method_18_code 6 = .ok (.istore_n 3, 1) := by decide +kernel
theorem d_T_replaceState_7 : decode prog_3_method_18_code 7 = .ok (.aload_n 0, 1) := by decide +kernel
theorem d_T_replaceState_8 : decode prog_3_method_18_code 8 = .ok (.getfield 9, 3) := by decide +kernel
theorem d_T_replaceState_11 : decode prog_3_method_18_code 11 = .ok (.iload_n 1, 1) := by decide +kernel
theorem d_T_replaceState_12 : decode prog_3_method_18_code 12 = .ok (.iload_n 2, 1) := by decide +kernel
theorem d_T_replaceState_13 : decode prog_3_method_18_code 13 = .ok (.iastore, 1) := by decide +kernel
theorem d_T_replaceState_14 : decode prog_3_method_18_code 14 = .ok (.iload_n 3, 1) := by decide +kernel
theorem d_T_replaceState_15 : decode prog_3_method_18_code 15 = .ok (.ireturn, 1) := by decide +kernel
theorem d_T_condemn_0 : decode prog_3_method_19_code 0 = .ok (.iconst 0, 1) := by decide +kernel
theorem d_T_condemn_1 : decode prog_3_method_19_code 1 = .ok (.istore_n 2, 1) := by decide +kernel
theorem d_T_condemn_2 : decode prog_3_method_19_code 2 = .ok (.iload_n 2, 1) := by decide +kernel
theorem d_T_condemn_3 : decode prog_3_method_19_code 3 = .ok (.bipush 40, 2) := by decide +kernel
theorem d_T_condemn_5 : decode prog_3_method_19_code 5 = .ok (.if_icmp .ge 52, 3) := by decide +kernel
theorem d_T_condemn_8 : decode prog_3_method_19_code 8 = .ok (.aload_n 0, 1) := by decide +kernel
theorem d_T_condemn_9 : decode prog_3_method_19_code 9 = .ok (.iload_n 2, 1) := by decide +kernel
theorem d_T_condemn_10 : decode prog_3_method_19_code 10 = .ok (.invokevirtual 33, 3) := by decide +kernel
theorem d_T_condemn_13 : decode prog_3_method_19_code 13 = .ok (.ifCond .eq 38, 3) := by decide +kernel
theorem d_T_condemn_16 : decode prog_3_method_19_code 16 = .ok (.aload_n 0, 1) := by decide +kernel
theorem d_T_condemn_17 : decode prog_3_method_19_code 17 = .ok (.iload_n 2, 1) := by decide +kernel
theorem d_T_condemn_18 : decode prog_3_method_19_code 18 = .ok (.iload_n 1, 1) := by decide +kernel
theorem d_T_condemn_19 : decode prog_3_method_19_code 19 = .ok (.invokevirtual 37, 3) := by decide +kernel
theorem d_T_condemn_22 : decode prog_3_method_19_code 22 = .ok (.ifCond .eq 29, 3) := by decide +kernel
theorem d_T_condemn_25 : decode prog_3_method_19_code 25 = .ok (.aload_n 0, 1) := by decide +kernel
theorem d_T_condemn_26 : decode prog_3_method_19_code 26 = .ok (.getfield 9, 3) := by decide +kernel
theorem d_T_condemn_29 : decode prog_3_method_19_code 29 = .ok (.iload_n 2, 1) := by decide +kernel
theorem d_T_condemn_30 : decode prog_3_method_19_code 30 = .ok (.iconst 2, 1) := by decide +kernel
theorem d_T_condemn_31 : decode prog_3_method_19_code 31 = .ok (.iastore, 1) := by decide +kernel
theorem d_T_condemn_32 : decode prog_3_method_19_code 32 = .ok (.aload_n 0, 1) := by decide +kernel
theorem d_T_condemn_33 : decode prog_3_method_19_code 33 = .ok (.iload_n 2, 1) := by decide +kernel
theorem d_T_condemn_34 : decode prog_3_method_19_code 34 = .ok (.aload_n 0, 1) := by decide +kernel
theorem d_T_condemn_35 : decode prog_3_method_19_code 35 = .ok (.getfield 21, 3) := by decide +kernel
theorem d_T_condemn_38 : decode prog_3_method_19_code 38 = .ok (.iload_n 2, 1) := by decide +kernel
theorem d_T_condemn_39 : decode prog_3_method_19_code 39 = .ok (.iaload, 1) := by decide +kernel
theorem d_T_condemn_40 : decode prog_3_method_19_code 40 = .ok (.ineg, 1) := by decide +kernel
theorem d_T_condemn_41 : decode prog_3_method_19_code 41 = .ok (.invokevirtual 41, 3) := by decide +kernel
theorem d_T_condemn_44 : decode prog_3_method_19_code 44 = .ok (.aload_n 0, 1) := by decide +kernel
theorem d_T_condemn_45 : decode prog_3_method_19_code 45 = .ok (.getfield 21, 3) := by decide +kernel
theorem d_T_condemn_48 : decode prog_3_method_19_code 48 = .ok (.iload_n 2, 1) := by decide +kernel
theorem d_T_condemn_49 : decode prog_3_method_19_code 49 = .ok (.iconst 0, 1) := by decide +kernel
theorem d_T_condemn_50 : decode prog_3_method_19_code 50 = .ok (.iastore, 1) := by decide +kernel
theorem d_T_condemn_51 : decode prog_3_method_19_code 51 = .ok (.iinc 2 1, 3) := by decide +kernel
theorem d_T_condemn_54 : decode prog_3_method_19_code 54 = .ok (.goto (-52), 3) := by decide +kernel
theorem d_T_condemn_57 : decode prog_3_method_19_code 57 = .ok (.return_, 1) := by decide +kernel
theorem d_T_closeEmptyDying_0 : decode prog_3_method_20_code 0 = .ok (.iconst 0, 1) := by decide +kernel
theorem d_T_closeEmptyDying_1 : decode prog_3_method_20_code 1 = .ok (.istore_n 1, 1) := by decide +kernel
theorem d_T_closeEmptyDying_2 : decode prog_3_method_20_code 2 = .ok (.iload_n 1, 1) := by decide +kernel
theorem d_T_closeEmptyDying_3 : decode prog_3_method_20_code 3 = .ok (.bipush 40, 2) := by decide +kernel
theorem d_T_closeEmptyDying_5 : decode prog_3_method_20_code 5 = .ok (.if_icmp .ge 33, 3) := by decide +kernel
theorem d_T_closeEmptyDying_8 : decode prog_3_method_20_code 8 = .ok (.aload_n 0, 1) := by decide +kernel
theorem d_T_closeEmptyDying_9 : decode prog_3_method_20_code 9 = .ok (.iload_n 1, 1) := by decide +kernel
theorem d_T_closeEmptyDying_10 : decode prog_3_method_20_code 10 = .ok (.invokevirtual 45, 3) := by decide +kernel
theorem d_T_closeEmptyDying_13 : decode prog_3_method_20_code 13 = .ok (.ifCond .eq 19, 3) := by decide +kernel
theorem d_T_closeEmptyDying_16 : decode prog_3_method_20_code 16 = .ok (.aload_n 0, 1) := by decide +kernel
theorem d_T_closeEmptyDying_17 : decode prog_3_method_20_code 17 = .ok (.getfield 24, 3) := by decide +kernel
theorem d_T_closeEmptyDying_20 : decode prog_3_method_20_code 20 = .ok (.iload_n 1, 1) := by decide +kernel
theorem d_T_closeEmptyDying_21 : decode prog_3_method_20_code 21 = .ok (.iaload, 1) := by decide +kernel
theorem d_T_closeEmptyDying_22 : decode prog_3_method_20_code 22 = .ok (.ifCond .ne 10, 3) := by decide +kernel
theorem d_T_closeEmptyDying_25 : decode prog_3_method_20_code 25 = .ok (.aload_n 0, 1) := by decide +kernel
theorem d_T_closeEmptyDying_26 : decode prog_3_method_20_code 26 = .ok (.getfield 9, 3) := by decide +kernel
theorem d_T_closeEmptyDying_29 : decode prog_3_method_20_code 29 = .ok (.iload_n 1, 1) := by decide +kernel
theorem d_T_closeEmptyDying_30 : decode prog_3_method_20_code 30 = .ok (.iconst 3, 1) := by decide +kernel
theorem d_T_closeEmptyDying_31 : decode prog_3_method_20_code 31 = .ok (.iastore, 1) := by decide +kernel
theorem d_T_closeEmptyDying_32 : decode prog_3_method_20_code 32 = .ok (.iinc 1 1, 3) := by decide +kernel
theorem d_T_closeEmptyDying_35 : decode prog_3_method_20_code 35 = .ok (.goto (-33), 3) := by decide +kernel
theorem d_T_closeEmptyDying_38 : decode prog_3_method_20_code 38 = .ok (.return_, 1) := by decide +kernel
theorem d_T_parentOf_0 : decode prog_3_method_5_code 0 = .ok (.aload_n 0, 1) := by decide +kernel
theorem d_T_parentOf_1 : decode prog_3_method_5_code 1 = .ok (.getfield 15, 3) := by decide +kernel
theorem d_T_parentOf_4 : decode prog_3_method_5_code 4 = .ok (.iload_n 1, 1) := by decide +kernel
theorem d_T_parentOf_5 : decode prog_3_method_5_code 5 = .ok (.iaload, 1) := by decide +kernel
theorem d_T_parentOf_6 : decode prog_3_method_5_code 6 = .ok (.ireturn, 1) := by decide +kernel
theorem d_T_mergeIntoParent_0 : decode prog_3_method_21_code 0 = .ok (.aload_n 0, 1) := by decide +kernel
theorem d_T_mergeIntoParent_1 : decode prog_3_method_21_code 1 = .ok (.getfield 15, 3) := by decide +kernel
theorem d_T_mergeIntoParent_4 : decode prog_3_method_21_code 4 = .ok (.iload_n 1, 1) := by decide +kernel
theorem d_T_mergeIntoParent_5 : decode prog_3_method_21_code 5 = .ok (.iaload, 1) := by decide +kernel
theorem d_T_mergeIntoParent_6 : decode prog_3_method_21_code 6 = .ok (.istore_n 2, 1) := by decide +kernel
theorem d_T_mergeIntoParent_7 : decode prog_3_method_21_code 7 = .ok (.aload_n 0, 1) := by decide +kernel
theorem d_T_mergeIntoParent_8 : decode prog_3_method_21_code 8 = .ok (.getfield 21, 3) := by decide +kernel
theorem d_T_mergeIntoParent_11 : decode prog_3_method_21_code 11 = .ok (.iload_n 2, 1) := by decide +kernel
theorem d_T_mergeIntoParent_12 : decode prog_3_method_21_code 12 = .ok (.dup2, 1) := by decide +kernel
theorem d_T_mergeIntoParent_13 : decode prog_3_method_21_code 13 = .ok (.iaload, 1) := by decide +kernel
theorem d_T_mergeIntoParent_14 : decode prog_3_method_21_code 14 = .ok (.aload_n 0, 1) := by decide +kernel
theorem d_T_mergeIntoParent_15 : decode prog_3_method_21_code 15 = .ok (.getfield 21, 3) := by decide +kernel
theorem d_T_mergeIntoParent_18 : decode prog_3_method_21_code 18 = .ok (.iload_n 1, 1) := by decide +kernel
theorem d_T_mergeIntoParent_19 : decode prog_3_method_21_code 19 = .ok (.iaload, 1) := by decide +kernel
theorem d_T_mergeIntoParent_20 : decode prog_3_method_21_code 20 = .ok (.iadd, 1) := by decide +kernel
theorem d_T_mergeIntoParent_21 : decode prog_3_method_21_code 21 = .ok (.iastore, 1) := by decide +kernel
theorem d_T_mergeIntoParent_22 : decode prog_3_method_21_code 22 = .ok (.aload_n 0, 1) := by decide +kernel
theorem d_T_mergeIntoParent_23 : decode prog_3_method_21_code 23 = .ok (.getfield 9, 3) := by decide +kernel
theorem d_T_mergeIntoParent_26 : decode prog_3_method_21_code 26 = .ok (.iload_n 1, 1) := by decide +kernel
theorem d_T_mergeIntoParent_27 : decode prog_3_method_21_code 27 = .ok (.iconst 3, 1) := by decide +kernel
theorem d_T_mergeIntoParent_28 : decode prog_3_method_21_code 28 = .ok (.iastore, 1) := by decide +kernel
theorem d_T_mergeIntoParent_29 : decode prog_3_method_21_code 29 = .ok (.iconst 0, 1) := by decide +kernel
theorem d_T_mergeIntoParent_30 : decode prog_3_method_21_code 30 = .ok (.istore_n 3, 1) := by decide +kernel
theorem d_T_mergeIntoParent_31 : decode prog_3_method_21_code 31 = .ok (.iload_n 3, 1) := by decide +kernel
theorem d_T_mergeIntoParent_32 : decode prog_3_method_21_code 32 = .ok (.bipush 40, 2) := by decide +kernel
theorem d_T_mergeIntoParent_34 : decode prog_3_method_21_code 34 = .ok (.if_icmp .ge 34, 3) := by decide +kernel
theorem d_T_mergeIntoParent_37 : decode prog_3_method_21_code 37 = .ok (.aload_n 0, 1) := by decide +kernel
theorem d_T_mergeIntoParent_38 : decode prog_3_method_21_code 38 = .ok (.iload_n 3, 1) := by decide +kernel
theorem d_T_mergeIntoParent_39 : decode prog_3_method_21_code 39 = .ok (.invokevirtual 33, 3) := by decide +kernel
theorem d_T_mergeIntoParent_42 : decode prog_3_method_21_code 42 = .ok (.ifCond .eq 20, 3) := by decide +kernel
theorem d_T_mergeIntoParent_45 : decode prog_3_method_21_code 45 = .ok (.aload_n 0, 1) := by decide +kernel
theorem d_T_mergeIntoParent_46 : decode prog_3_method_21_code 46 = .ok (.getfield 15, 3) := by decide +kernel
theorem d_T_mergeIntoParent_49 : decode prog_3_method_21_code 49 = .ok (.iload_n 3, 1) := by decide +kernel
theorem d_T_mergeIntoParent_50 : decode prog_3_method_21_code 50 = .ok (.iaload, 1) := by decide +kernel
theorem d_T_mergeIntoParent_51 : decode prog_3_method_21_code 51 = .ok (.iload_n 1, 1) := by decide +kernel
theorem d_T_mergeIntoParent_52 : decode prog_3_method_21_code 52 = .ok (.if_icmp .ne 10, 3) := by decide +kernel
theorem d_T_mergeIntoParent_55 : decode prog_3_method_21_code 55 = .ok (.aload_n 0, 1) := by decide +kernel
theorem d_T_mergeIntoParent_56 : decode prog_3_method_21_code 56 = .ok (.getfield 15, 3) := by decide +kernel
theorem d_T_mergeIntoParent_59 : decode prog_3_method_21_code 59 = .ok (.iload_n 3, 1) := by decide +kernel
theorem d_T_mergeIntoParent_60 : decode prog_3_method_21_code 60 = .ok (.iload_n 2, 1) := by decide +kernel
theorem d_T_mergeIntoParent_61 : decode prog_3_method_21_code 61 = .ok (.iastore, 1) := by decide +kernel
theorem d_T_mergeIntoParent_62 : decode prog_3_method_21_code 62 = .ok (.iinc 3 1, 3) := by decide +kernel
theorem d_T_mergeIntoParent_65 : decode prog_3_method_21_code 65 = .ok (.goto (-34), 3) := by decide +kernel
theorem d_T_mergeIntoParent_68 : decode prog_3_method_21_code 68 = .ok (.return_, 1) := by decide +kernel
theorem d_T_limitOf_0 : decode prog_3_method_6_code 0 = .ok (.aload_n 0, 1) := by decide +kernel
theorem d_T_limitOf_1 : decode prog_3_method_6_code 1 = .ok (.getfield 18, 3) := by decide +kernel
theorem d_T_limitOf_4 : decode prog_3_method_6_code 4 = .ok (.iload_n 1, 1) := by decide +kernel
theorem d_T_limitOf_5 : decode prog_3_method_6_code 5 = .ok (.iaload, 1) := by decide +kernel
theorem d_T_limitOf_6 : decode prog_3_method_6_code 6 = .ok (.ireturn, 1) := by decide +kernel
