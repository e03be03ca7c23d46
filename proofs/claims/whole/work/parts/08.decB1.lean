theorem d_B_move_2 : decode prog_1_method_10_code 2 = .ok (.invokevirtual 61, 3) := by decide +kernel
theorem d_B_move_5 : decode prog_1_method_10_code 5 = .ok (.iload_n 1, 1) := by decide +kernel
theorem d_B_move_6 : decode prog_1_method_10_code 6 = .ok (.invokestatic 64, 3) := by decide +kernel
theorem d_B_move_9 : decode prog_1_method_10_code 9 = .ok (.invokestatic 35, 3) := by decide +kernel
theorem d_B_move_12 : decode prog_1_method_10_code 12 = .ok (.aload_n 0, 1) := by decide +kernel
theorem d_B_move_13 : decode prog_1_method_10_code 13 = .ok (.iload_n 2, 1) := by decide +kernel
theorem d_B_move_14 : decode prog_1_method_10_code 14 = .ok (.invokevirtual 27, 3) := by decide +kernel
theorem d_B_move_17 : decode prog_1_method_10_code 17 = .ok (.aload_n 0, 1) := by decide +kernel
theorem d_B_move_18 : decode prog_1_method_10_code 18 = .ok (.iload_n 2, 1) := by decide +kernel
theorem d_B_move_19 : decode prog_1_method_10_code 19 = .ok (.invokevirtual 39, 3) := by decide +kernel
theorem d_B_move_22 : decode prog_1_method_10_code 22 = .ok (.iload_n 1, 1) := by decide +kernel
theorem d_B_move_23 : decode prog_1_method_10_code 23 = .ok (.invokestatic 67, 3) := by decide +kernel
theorem d_B_move_26 : decode prog_1_method_10_code 26 = .ok (.istore_n 3, 1) := by decide +kernel
theorem d_B_move_27 : decode prog_1_method_10_code 27 = .ok (.aload_n 0, 1) := by decide +kernel
theorem d_B_move_28 : decode prog_1_method_10_code 28 = .ok (.getfield 19, 3) := by decide +kernel
theorem d_B_move_31 : decode prog_1_method_10_code 31 = .ok (.iload_n 3, 1) := by decide +kernel
theorem d_B_move_32 : decode prog_1_method_10_code 32 = .ok (.invokevirtual 74, 3) := by decide +kernel
theorem d_B_move_35 : decode prog_1_method_10_code 35 = .ok (.istore 4, 2) := by decide +kernel
theorem d_B_move_37 : decode prog_1_method_10_code 37 = .ok (.aload_n 0, 1) := by decide +kernel
theorem d_B_move_38 : decode prog_1_method_10_code 38 = .ok (.getfield 10, 3) := by decide +kernel
theorem d_B_move_41 : decode prog_1_method_10_code 41 = .ok (.iload 4, 2) := by decide +kernel
theorem d_B_move_43 : decode prog_1_method_10_code 43 = .ok (.iconst (-1), 1) := by decide +kernel
theorem d_B_move_44 : decode prog_1_method_10_code 44 = .ok (.invokevirtual 89, 3) := by decide +kernel
theorem d_B_move_47 : decode prog_1_method_10_code 47 = .ok (.aload_n 0, 1) := by decide +kernel
theorem d_B_move_48 : decode prog_1_method_10_code 48 = .ok (.getfield 10, 3) := by decide +kernel
theorem d_B_move_51 : decode prog_1_method_10_code 51 = .ok (.iload_n 2, 1) := by decide +kernel
theorem d_B_move_52 : decode prog_1_method_10_code 52 = .ok (.iconst 1, 1) := by decide +kernel
theorem d_B_move_53 : decode prog_1_method_10_code 53 = .ok (.invokevirtual 106, 3) := by decide +kernel
theorem d_B_move_56 : decode prog_1_method_10_code 56 = .ok (.istore 5, 2) := by decide +kernel
theorem d_B_move_58 : decode prog_1_method_10_code 58 = .ok (.iload 5, 2) := by decide +kernel
theorem d_B_move_60 : decode prog_1_method_10_code 60 = .ok (.iconst (-1), 1) := by decide +kernel
theorem d_B_move_61 : decode prog_1_method_10_code 61 = .ok (.if_icmp .eq 19, 3) := by decide +kernel
theorem d_B_move_64 : decode prog_1_method_10_code 64 = .ok (.aload_n 0, 1) := by decide +kernel
theorem d_B_move_65 : decode prog_1_method_10_code 65 = .ok (.getfield 10, 3) := by decide +kernel
theorem d_B_move_68 : decode prog_1_method_10_code 68 = .ok (.iload 4, 2) := by decide +kernel
theorem d_B_move_70 : decode prog_1_method_10_code 70 = .ok (.iconst 1, 1) := by decide +kernel
theorem d_B_move_71 : decode prog_1_method_10_code 71 = .ok (.invokevirtual 89, 3) := by decide +kernel
theorem d_B_move_74 : decode prog_1_method_10_code 74 = .ok (.aload_n 0, 1) := by decide +kernel
theorem d_B_move_75 : decode prog_1_method_10_code 75 = .ok (.iload 5, 2) := by decide +kernel
theorem d_B_move_77 : decode prog_1_method_10_code 77 = .ok (.invokevirtual 50, 3) := by decide +kernel
theorem d_B_move_80 : decode prog_1_method_10_code 80 = .ok (.aload_n 0, 1) := by decide +kernel
theorem d_B_move_81 : decode prog_1_method_10_code 81 = .ok (.getfield 10, 3) := by decide +kernel
theorem d_B_move_84 : decode prog_1_method_10_code 84 = .ok (.iload_n 2, 1) := by decide +kernel
theorem d_B_move_85 : decode prog_1_method_10_code 85 = .ok (.iconst 1, 1) := by decide +kernel
theorem d_B_move_86 : decode prog_1_method_10_code 86 = .ok (.invokevirtual 89, 3) := by decide +kernel
theorem d_B_move_89 : decode prog_1_method_10_code 89 = .ok (.aload_n 0, 1) := by decide +kernel
theorem d_B_move_90 : decode prog_1_method_10_code 90 = .ok (.getfield 19, 3) := by decide +kernel
theorem d_B_move_93 : decode prog_1_method_10_code 93 = .ok (.iload_n 3, 1) := by decide +kernel
theorem d_B_move_94 : decode prog_1_method_10_code 94 = .ok (.invokevirtual 83, 3) := by decide +kernel
theorem d_B_move_97 : decode prog_1_method_10_code 97 = .ok (.aload_n 0, 1) := by decide +kernel
theorem d_B_move_98 : decode prog_1_method_10_code 98 = .ok (.getfield 19, 3) := by decide +kernel
theorem d_B_move_101 : decode prog_1_method_10_code 101 = .ok (.invokevirtual 86, 3) := by decide +kernel
theorem d_B_move_104 : decode prog_1_method_10_code 104 = .ok (.aload_n 0, 1) := by decide +kernel
theorem d_B_move_105 : decode prog_1_method_10_code 105 = .ok (.getfield 19, 3) := by decide +kernel
theorem d_B_move_108 : decode prog_1_method_10_code 108 = .ok (.iload_n 3, 1) := by decide +kernel
theorem d_B_move_109 : decode prog_1_method_10_code 109 = .ok (.iload_n 2, 1) := by decide +kernel
theorem d_B_move_110 : decode prog_1_method_10_code 110 = .ok (.invokevirtual 109, 3) := by decide +kernel
theorem d_B_move_113 : decode prog_1_method_10_code 113 = .ok (.iload 4, 2) := by decide +kernel
theorem d_B_move_115 : decode prog_1_method_10_code 115 = .ok (.ireturn, 1) := by decide +kernel
theorem d_B_limit_0 : decode prog_1_method_11_code 0 = .ok (.aload_n 0, 1) := by decide +kernel
theorem d_B_limit_1 : decode prog_1_method_11_code 1 = .ok (.iload_n 1, 1) := by decide +kernel
theorem d_B_limit_2 : decode prog_1_method_11_code 2 = .ok (.invokevirtual 27, 3) := by decide +kernel
theorem d_B_limit_5 : decode prog_1_method_11_code 5 = .ok (.iload_n 2, 1) := by decide +kernel
theorem d_B_limit_6 : decode prog_1_method_11_code 6 = .ok (.invokestatic 31, 3) := by decide +kernel
theorem d_B_limit_9 : decode prog_1_method_11_code 9 = .ok (.ifCond .eq 11, 3) := by decide +kernel
theorem d_B_limit_12 : decode prog_1_method_11_code 12 = .ok (.iload_n 1, 1) := by decide +kernel
theorem d_B_limit_13 : decode prog_1_method_11_code 13 = .ok (.ifCond .eq 7, 3) := by decide +kernel
theorem d_B_limit_16 : decode prog_1_method_11_code 16 = .ok (.iconst 1, 1) := by decide +kernel
theorem d_B_limit_17 : decode prog_1_method_11_code 17 = .ok (.goto 4, 3) := by decide +kernel
theorem d_B_limit_20 : decode prog_1_method_11_code 20 = .ok (.iconst 0, 1) := by decide +kernel
theorem d_B_limit_21 : decode prog_1_method_11_code 21 = .ok (.invokestatic 35, 3) := by decide +kernel
theorem d_B_limit_24 : decode prog_1_method_11_code 24 = .ok (.aload_n 0, 1) := by decide +kernel
theorem d_B_limit_25 : decode prog_1_method_11_code 25 = .ok (.getfield 10, 3) := by decide +kernel
theorem d_B_limit_28 : decode prog_1_method_11_code 28 = .ok (.iload_n 1, 1) := by decide +kernel
theorem d_B_limit_29 : decode prog_1_method_11_code 29 = .ok (.invokevirtual 112, 3) := by decide +kernel
theorem d_B_limit_32 : decode prog_1_method_11_code 32 = .ok (.iload_n 2, 1) := by decide +kernel
theorem d_B_limit_33 : decode prog_1_method_11_code 33 = .ok (.if_icmp .gt 18, 3) := by decide +kernel
theorem d_B_limit_36 : decode prog_1_method_11_code 36 = .ok (.aload_n 0, 1) := by decide +kernel
theorem d_B_limit_37 : decode prog_1_method_11_code 37 = .ok (.getfield 10, 3) := by decide +kernel
theorem d_B_limit_40 : decode prog_1_method_11_code 40 = .ok (.iload_n 1, 1) := by decide +kernel
theorem d_B_limit_41 : decode prog_1_method_11_code 41 = .ok (.invokevirtual 77, 3) := by decide +kernel
theorem d_B_limit_44 : decode prog_1_method_11_code 44 = .ok (.ifCond .ne 7, 3) := by decide +kernel
theorem d_B_limit_47 : decode prog_1_method_11_code 47 = .ok (.iconst 1, 1) := by decide +kernel
theorem d_B_limit_48 : decode prog_1_method_11_code 48 = .ok (.goto 4, 3) := by decide +kernel
theorem d_B_limit_51 : decode prog_1_method_11_code 51 = .ok (.iconst 0, 1) := by decide +kernel
theorem d_B_limit_52 : decode prog_1_method_11_code 52 = .ok (.invokestatic 115, 3) := by decide +kernel
theorem d_B_limit_55 : decode prog_1_method_11_code 55 = .ok (.aload_n 0, 1) := by decide +kernel
theorem d_B_limit_56 : decode prog_1_method_11_code 56 = .ok (.getfield 10, 3) := by decide +kernel
theorem d_B_limit_59 : decode prog_1_method_11_code 59 = .ok (.iload_n 1, 1) := by decide +kernel
theorem d_B_limit_60 : decode prog_1_method_11_code 60 = .ok (.iload_n 2, 1) := by decide +kernel
theorem d_B_limit_61 : decode prog_1_method_11_code 61 = .ok (.invokevirtual 118, 3) := by decide +kernel
theorem d_B_limit_64 : decode prog_1_method_11_code 64 = .ok (.ireturn, 1) := by decide +kernel
theorem d_B_reserve_0 : decode prog_1_method_12_code 0 = .ok (.aload_n 0, 1) := by decide +kernel
theorem d_B_reserve_1 : decode prog_1_method_12_code 1 = .ok (.iload_n 1, 1) := by decide +kernel
theorem d_B_reserve_2 : decode prog_1_method_12_code 2 = .ok (.invokevirtual 27, 3) := by decide +kernel
theorem d_B_reserve_5 : decode prog_1_method_12_code 5 = .ok (.iload_n 2, 1) := by decide +kernel
theorem d_B_reserve_6 : decode prog_1_method_12_code 6 = .ok (.invokestatic 31, 3) := by decide +kernel
theorem d_B_reserve_9 : decode prog_1_method_12_code 9 = .ok (.invokestatic 35, 3) := by decide +kernel
theorem d_B_reserve_12 : decode prog_1_method_12_code 12 = .ok (.aload_n 0, 1) := by decide +kernel
theorem d_B_reserve_13 : decode prog_1_method_12_code 13 = .ok (.iload_n 1, 1) := by decide +kernel
theorem d_B_reserve_14 : decode prog_1_method_12_code 14 = .ok (.invokevirtual 39, 3) := by decide +kernel
theorem d_B_reserve_17 : decode prog_1_method_12_code 17 = .ok (.aload_n 0, 1) := by decide +kernel
theorem d_B_reserve_18 : decode prog_1_method_12_code 18 = .ok (.iload_n 1, 1) := by decide +kernel
theorem d_B_reserve_19 : decode prog_1_method_12_code 19 = .ok (.iload_n 2, 1) := by decide +kernel
theorem d_B_reserve_20 : decode prog_1_method_12_code 20 = .ok (.invokevirtual 121, 3) := by decide +kernel
theorem d_B_reserve_23 : decode prog_1_method_12_code 23 = .ok (.aload_n 0, 1) := by decide +kernel
theorem d_B_reserve_24 : decode prog_1_method_12_code 24 = .ok (.getfield 10, 3) := by decide +kernel
theorem d_B_reserve_27 : decode prog_1_method_12_code 27 = .ok (.iload_n 1, 1) := by decide +kernel
theorem d_B_reserve_28 : decode prog_1_method_12_code 28 = .ok (.iload_n 2, 1) := by decide +kernel
theorem d_B_reserve_29 : decode prog_1_method_12_code 29 = .ok (.invokevirtual 124, 3) := by decide +kernel
theorem d_B_reserve_32 : decode prog_1_method_12_code 32 = .ok (.aload_n 0, 1) := by decide +kernel
theorem d_B_reserve_33 : decode prog_1_method_12_code 33 = .ok (.getfield 10, 3) := by decide +kernel
theorem d_B_reserve_36 : decode prog_1_method_12_code 36 = .ok (.iload_n 1, 1) := by decide +kernel
theorem d_B_reserve_37 : decode prog_1_method_12_code 37 = .ok (.iload_n 2, 1) := by decide +kernel
theorem d_B_reserve_38 : decode prog_1_method_12_code 38 = .ok (.invokevirtual 89, 3) := by decide +kernel
theorem d_B_reserve_41 : decode prog_1_method_12_code 41 = .ok (.aload_n 0, 1) := by decide +kernel
theorem d_B_reserve_42 : decode prog_1_method_12_code 42 = .ok (.getfield 10, 3) := by decide +kernel
theorem d_B_reserve_45 : decode prog_1_method_12_code 45 = .ok (.iload_n 1, 1) := by decide +kernel
theorem d_B_reserve_46 : decode prog_1_method_12_code 46 = .ok (.invokevirtual 127, 3) := by decide +kernel
theorem d_B_reserve_49 : decode prog_1_method_12_code 49 = .ok (.ireturn, 1) := by decide +kernel
theorem d_B_unreserve_0 : decode prog_1_method_13_code 0 = .ok (.aload_n 0, 1) := by decide +kernel
theorem d_B_unreserve_1 : decode prog_1_method_13_code 1 = .ok (.iload_n 1, 1) := by decide +kernel
theorem d_B_unreserve_2 : decode prog_1_method_13_code 2 = .ok (.invokevirtual 27, 3) := by decide +kernel
theorem d_B_unreserve_5 : decode prog_1_method_13_code 5 = .ok (.iload_n 2, 1) := by decide +kernel
theorem d_B_unreserve_6 : decode prog_1_method_13_code 6 = .ok (.ifCond .lt 19, 3) := by decide +kernel
theorem d_B_unreserve_9 : decode prog_1_method_13_code 9 = .ok (.iload_n 2, 1) := by decide +kernel
theorem d_B_unreserve_10 : decode prog_1_method_13_code 10 = .ok (.aload_n 0, 1) := by decide +kernel
theorem d_B_unreserve_11 : decode prog_1_method_13_code 11 = .ok (.getfield 10, 3) := by decide +kernel
theorem d_B_unreserve_14 : decode prog_1_method_13_code 14 = .ok (.iload_n 1, 1) := by decide +kernel
theorem d_B_unreserve_15 : decode prog_1_method_13_code 15 = .ok (.invokevirtual 127, 3) := by decide +kernel
theorem d_B_unreserve_18 : decode prog_1_method_13_code 18 = .ok (.if_icmp .gt 7, 3) := by decide +kernel
theorem d_B_unreserve_21 : decode prog_1_method_13_code 21 = .ok (.iconst 1, 1) := by decide +kernel
theorem d_B_unreserve_22 : decode prog_1_method_13_code 22 = .ok (.goto 4, 3) := by decide +kernel
theorem d_B_unreserve_25 : decode prog_1_method_13_code 25 = .ok (.iconst 0, 1) := by decide +kernel
theorem d_B_unreserve_26 : decode prog_1_method_13_code 26 = .ok (.invokestatic 35, 3) := by decide +kernel
theorem d_B_unreserve_29 : decode prog_1_method_13_code 29 = .ok (.aload_n 0, 1) := by decide +kernel
theorem d_B_unreserve_30 : decode prog_1_method_13_code 30 = .ok (.getfield 10, 3) := by decide +kernel
theorem d_B_unreserve_33 : decode prog_1_method_13_code 33 = .ok (.iload_n 1, 1) := by decide +kernel
theorem d_B_unreserve_34 : decode prog_1_method_13_code 34 = .ok (.iload_n 2, 1) := by decide +kernel
theorem d_B_unreserve_35 : decode prog_1_method_13_code 35 = .ok (.ineg, 1) := by decide +kernel
theorem d_B_unreserve_36 : decode prog_1_method_13_code 36 = .ok (.invokevirtual 124, 3) := by decide +kernel
theorem d_B_unreserve_39 : decode prog_1_method_13_code 39 = .ok (.aload_n 0, 1) := by decide +kernel
theorem d_B_unreserve_40 : decode prog_1_method_13_code 40 = .ok (.getfield 10, 3) := by decide +kernel
theorem d_B_unreserve_43 : decode prog_1_method_13_code 43 = .ok (.iload_n 1, 1) := by decide +kernel
theorem d_B_unreserve_44 : decode prog_1_method_13_code 44 = .ok (.iload_n 2, 1) := by decide +kernel
theorem d_B_unreserve_45 : decode prog_1_method_13_code 45 = .ok (.ineg, 1) := by decide +kernel
theorem d_B_unreserve_46 : decode prog_1_method_13_code 46 = .ok (.invokevirtual 89, 3) := by decide +kernel
theorem d_B_unreserve_49 : decode prog_1_method_13_code 49 = .ok (.aload_n 0, 1) := by decide +kernel
theorem d_B_unreserve_50 : decode prog_1_method_13_code 50 = .ok (.getfield 10, 3) := by decide +kernel
theorem d_B_unreserve_53 : decode prog_1_method_13_code 53 = .ok (.iload_n 1, 1) := by decide +kernel
theorem d_B_unreserve_54 : decode prog_1_method_13_code 54 = .ok (.invokevirtual 127, 3) := by decide +kernel
theorem d_B_unreserve_57 : decode prog_1_method_13_code 57 = .ok (.ireturn, 1) := by decide +kernel
theorem d_B_freeze_0 : decode prog_1_method_14_code 0 = .ok (.aload_n 0, 1) := by decide +kernel
theorem d_B_freeze_1 : decode prog_1_method_14_code 1 = .ok (.iload_n 1, 1) := by decide +kernel
theorem d_B_freeze_2 : decode prog_1_method_14_code 2 = .ok (.invokevirtual 130, 3) := by decide +kernel
theorem d_B_freeze_5 : decode prog_1_method_14_code 5 = .ok (.aload_n 0, 1) := by decide +kernel
theorem d_B_freeze_6 : decode prog_1_method_14_code 6 = .ok (.getfield 10, 3) := by decide +kernel
theorem d_B_freeze_9 : decode prog_1_method_14_code 9 = .ok (.iload_n 1, 1) := by decide +kernel
theorem d_B_freeze_10 : decode prog_1_method_14_code 10 = .ok (.invokevirtual 77, 3) := by decide +kernel
theorem d_B_freeze_13 : decode prog_1_method_14_code 13 = .ok (.ifCond .ne 7, 3) := by decide +kernel
theorem d_B_freeze_16 : decode prog_1_method_14_code 16 = .ok (.iconst 1, 1) := by decide +kernel
theorem d_B_freeze_17 : decode prog_1_method_14_code 17 = .ok (.goto 4, 3) := by decide +kernel
theorem d_B_freeze_20 : decode prog_1_method_14_code 20 = .ok (.iconst 0, 1) := by decide +kernel
theorem d_B_freeze_21 : decode prog_1_method_14_code 21 = .ok (.invokestatic 115, 3) := by decide +kernel
theorem d_B_freeze_24 : decode prog_1_method_14_code 24 = .ok (.aload_n 0, 1) := by decide +kernel
theorem d_B_freeze_25 : decode prog_1_method_14_code 25 = .ok (.getfield 10, 3) := by decide +kernel
theorem d_B_freeze_28 : decode prog_1_method_14_code 28 = .ok (.iload_n 1, 1) := by decide +kernel
theorem d_B_freeze_29 : decode prog_1_method_14_code 29 = .ok (.iload_n 2, 1) := by decide +kernel
theorem d_B_freeze_30 : decode prog_1_method_14_code 30 = .ok (.ifCond .eq 7, 3) := by decide +kernel
theorem d_B_freeze_33 : decode prog_1_method_14_code 33 = .ok (.iconst 1, 1) := by decide +kernel
theorem d_B_freeze_34 : decode prog_1_method_14_code 34 = .ok (.goto 4, 3) := by decide +kernel
theorem d_B_freeze_37 : decode prog_1_method_14_code 37 = .ok (.iconst 0, 1) := by decide +kernel
theorem d_B_freeze_38 : decode prog_1_method_14_code 38 = .ok (.invokevirtual 133, 3) := by decide +kernel
theorem d_B_freeze_41 : decode prog_1_method_14_code 41 = .ok (.iconst 1, 1) := by decide +kernel
theorem d_B_freeze_42 : decode prog_1_method_14_code 42 = .ok (.if_icmp .ne 7, 3) := by decide +kernel
theorem d_B_freeze_45 : decode prog_1_method_14_code 45 = .ok (.iconst 1, 1) := by decide +kernel
theorem d_B_freeze_46 : decode prog_1_method_14_code 46 = .ok (.goto 4, 3) := by decide +kernel
theorem d_B_freeze_49 : decode prog_1_method_14_code 49 = .ok (.iconst 0, 1) := by decide +kernel
theorem d_B_freeze_50 : decode prog_1_method_14_code 50 = .ok (.ireturn, 1) := by decide +kernel
theorem d_B_requireOtherThanRoot_0 : decode prog_1_method_32_code 0 = .ok (.aload_n 0, 1) := by decide +kernel
theorem d_B_requireOtherThanRoot_1 : decode prog_1_method_32_code 1 = .ok (.iload_n 1, 1) := by decide +kernel
theorem d_B_requireOtherThanRoot_2 : decode prog_1_method_32_code 2 = .ok (.invokevirtual 27, 3) := by decide +kernel
theorem d_B_requireOtherThanRoot_5 : decode prog_1_method_32_code 5 = .ok (.iload_n 1, 1) := by decide +kernel
theorem d_B_requireOtherThanRoot_6 : decode prog_1_method_32_code 6 = .ok (.ifCond .eq 7, 3) := by decide +kernel
theorem d_B_requireOtherThanRoot_9 : decode prog_1_method_32_code 9 = .ok (.iconst 1, 1) := by decide +kernel
theorem d_B_requireOtherThanRoot_10 : decode prog_1_method_32_code 10 = .ok (.goto 4, 3) := by decide +kernel
theorem d_B_requireOtherThanRoot_13 : decode prog_1_method_32_code 13 = .ok (.iconst 0, 1) := by decide +kernel
theorem d_B_requireOtherThanRoot_14 : decode prog_1_method_32_code 14 = .ok (.invokestatic 35, 3) := by decide +kernel
theorem d_B_requireOtherThanRoot_17 : decode prog_1_method_32_code 17 = .ok (.return_, 1) := by decide +kernel
theorem d_B_destroy_0 : decode prog_1_method_15_code 0 = .ok (.aload_n 0, 1) := by decide +kernel
theorem d_B_destroy_1 : decode prog_1_method_15_code 1 = .ok (.iload_n 1, 1) := by decide +kernel
theorem d_B_destroy_2 : decode prog_1_method_15_code 2 = .ok (.invokevirtual 130, 3) := by decide +kernel
theorem d_B_destroy_5 : decode prog_1_method_15_code 5 = .ok (.aload_n 0, 1) := by decide +kernel
theorem d_B_destroy_6 : decode prog_1_method_15_code 6 = .ok (.getfield 10, 3) := by decide +kernel
theorem d_B_destroy_9 : decode prog_1_method_15_code 9 = .ok (.iload_n 1, 1) := by decide +kernel
theorem d_B_destroy_10 : decode prog_1_method_15_code 10 = .ok (.invokevirtual 77, 3) := by decide +kernel
theorem d_B_destroy_13 : decode prog_1_method_15_code 13 = .ok (.ifCond .ne 7, 3) := by decide +kernel
theorem d_B_destroy_16 : decode prog_1_method_15_code 16 = .ok (.iconst 1, 1) := by decide +kernel
theorem d_B_destroy_17 : decode prog_1_method_15_code 17 = .ok (.goto 4, 3) := by decide +kernel
theorem d_B_destroy_20 : decode prog_1_method_15_code 20 = .ok (.iconst 0, 1) := by decide +kernel
theorem d_B_destroy_21 : decode prog_1_method_15_code 21 = .ok (.invokestatic 115, 3) := by decide +kernel
theorem d_B_destroy_24 : decode prog_1_method_15_code 24 = .ok (.aload_n 0, 1) := by decide +kernel
theorem d_B_destroy_25 : decode prog_1_method_15_code 25 = .ok (.getfield 10, 3) := by decide +kernel
theorem d_B_destroy_28 : decode prog_1_method_15_code 28 = .ok (.iload_n 1, 1) := by decide +kernel
theorem d_B_destroy_29 : decode prog_1_method_15_code 29 = .ok (.invokevirtual 136, 3) := by decide +kernel
theorem d_B_destroy_32 : decode prog_1_method_15_code 32 = .ok (.aload_n 0, 1) := by decide +kernel
theorem d_B_destroy_33 : decode prog_1_method_15_code 33 = .ok (.getfield 10, 3) := by decide +kernel
theorem d_B_destroy_36 : decode prog_1_method_15_code 36 = .ok (.invokevirtual 139, 3) := by decide +kernel
theorem d_B_destroy_39 : decode prog_1_method_15_code 39 = .ok (.aload_n 0, 1) := by decide +kernel
theorem d_B_destroy_40 : decode prog_1_method_15_code 40 = .ok (.invokevirtual 142, 3) := by decide +kernel
theorem d_B_destroy_43 : decode prog_1_method_15_code 43 = .ok (.ireturn, 1) := by decide +kernel
theorem d_B_dyingPages_0 : decode prog_1_method_28_code 0 = .ok (.iconst 0, 1) := by decide +kernel
theorem d_B_dyingPages_1 : decode prog_1_method_28_code 1 = .ok (.istore_n 1, 1) := by decide +kernel
theorem d_B_dyingPages_2 : decode prog_1_method_28_code 2 = .ok (.iconst 0, 1) := by decide +kernel
theorem d_B_dyingPages_3 : decode prog_1_method_28_code 3 = .ok (.istore_n 2, 1) := by decide +kernel
theorem d_B_dyingPages_4 : decode prog_1_method_28_code 4 = .ok (.iload_n 2, 1) := by decide +kernel
theorem d_B_dyingPages_5 : decode prog_1_method_28_code 5 = .ok (.sipush 192, 3) := by decide +kernel
theorem d_B_dyingPages_8 : decode prog_1_method_28_code 8 = .ok (.if_icmp .ge 20, 3) := by decide +kernel
theorem d_B_dyingPages_11 : decode prog_1_method_28_code 11 = .ok (.aload_n 0, 1) := by decide +kernel
theorem d_B_dyingPages_12 : decode prog_1_method_28_code 12 = .ok (.iload_n 2, 1) := by decide +kernel
theorem d_B_dyingPages_13 : decode prog_1_method_28_code 13 = .ok (.invokevirtual 145, 3) := by decide +kernel
theorem d_B_dyingPages_16 : decode prog_1_method_28_code 16 = .ok (.ifCond .eq 6, 3) := by decide +kernel
theorem d_B_dyingPages_19 : decode prog_1_method_28_code 19 = .ok (.iinc 1 1, 3) := by decide +kernel
theorem d_B_dyingPages_22 : decode prog_1_method_28_code 22 = .ok (.iinc 2 1, 3) := by decide +kernel
theorem d_B_dyingPages_25 : decode prog_1_method_28_code 25 = .ok (.goto (-21), 3) := by decide +kernel
theorem d_B_dyingPages_28 : decode prog_1_method_28_code 28 = .ok (.iload_n 1, 1) := by decide +kernel
theorem d_B_dyingPages_29 : decode prog_1_method_28_code 29 = .ok (.ireturn, 1) := by decide +kernel
theorem d_B_isDyingPage_0 : decode prog_1_method_27_code 0 = .ok (.aload_n 0, 1) := by decide +kernel
theorem d_B_isDyingPage_1 : decode prog_1_method_27_code 1 = .ok (.getfield 19, 3) := by decide +kernel
theorem d_B_isDyingPage_4 : decode prog_1_method_27_code 4 = .ok (.iload_n 1, 1) := by decide +kernel
theorem d_B_isDyingPage_5 : decode prog_1_method_27_code 5 = .ok (.invokevirtual 205, 3) := by decide +kernel
theorem d_B_isDyingPage_8 : decode prog_1_method_27_code 8 = .ok (.ifCond .eq 25, 3) := by decide +kernel
theorem d_B_isDyingPage_11 : decode prog_1_method_27_code 11 = .ok (.aload_n 0, 1) := by decide +kernel
theorem d_B_isDyingPage_12 : decode prog_1_method_27_code 12 = .ok (.getfield 10, 3) := by decide +kernel
theorem d_B_isDyingPage_15 : decode prog_1_method_27_code 15 = .ok (.aload_n 0, 1) := by decide +kernel
theorem d_B_isDyingPage_16 : decode prog_1_method_27_code 16 = .ok (.getfield 19, 3) := by decide +kernel
theorem d_B_isDyingPage_19 : decode prog_1_method_27_code 19 = .ok (.iload_n 1, 1) := by decide +kernel
theorem d_B_isDyingPage_20 : decode prog_1_method_27_code 20 = .ok (.invokevirtual 74, 3) := by decide +kernel
theorem d_B_isDyingPage_23 : decode prog_1_method_27_code 23 = .ok (.invokevirtual 77, 3) := by decide +kernel
theorem d_B_isDyingPage_26 : decode prog_1_method_27_code 26 = .ok (.ifCond .eq 7, 3) := by decide +kernel
theorem d_B_isDyingPage_29 : decode prog_1_method_27_code 29 = .ok (.iconst 1, 1) := by decide +kernel
theorem d_B_isDyingPage_30 : decode prog_1_method_27_code 30 = .ok (.goto 4, 3) := by decide +kernel
theorem d_B_isDyingPage_33 : decode prog_1_method_27_code 33 = .ok (.iconst 0, 1) := by decide +kernel
theorem d_B_isDyingPage_34 : decode prog_1_method_27_code 34 = .ok (.ireturn, 1) := by decide +kernel
theorem d_B_work_0 : decode prog_1_method_16_code 0 = .ok (.iload_n 1, 1) := by decide +kernel
theorem d_B_work_1 : decode prog_1_method_16_code 1 = .ok (.invokestatic 31, 3) := by decide +kernel
theorem d_B_work_4 : decode prog_1_method_16_code 4 = .ok (.invokestatic 35, 3) := by decide +kernel
theorem d_B_work_7 : decode prog_1_method_16_code 7 = .ok (.iload_n 1, 1) := by decide +kernel
theorem d_B_work_8 : decode prog_1_method_16_code 8 = .ok (.istore_n 2, 1) := by decide +kernel
theorem d_B_work_9 : decode prog_1_method_16_code 9 = .ok (.iconst 0, 1) := by decide +kernel
theorem d_B_work_10 : decode prog_1_method_16_code 10 = .ok (.istore_n 3, 1) := by decide +kernel
theorem d_B_work_11 : decode prog_1_method_16_code 11 = .ok (.iload_n 3, 1) := by decide +kernel
theorem d_B_work_12 : decode prog_1_method_16_code 12 = .ok (.sipush 192, 3) := by decide +kernel
theorem d_B_work_15 : decode prog_1_method_16_code 15 = .ok (.if_icmp .ge 48, 3) := by decide +kernel
theorem d_B_work_18 : decode prog_1_method_16_code 18 = .ok (.iload_n 2, 1) := by decide +kernel
theorem d_B_work_19 : decode prog_1_method_16_code 19 = .ok (.ifCond .le 44, 3) := by decide +kernel
theorem d_B_work_22 : decode prog_1_method_16_code 22 = .ok (.aload_n 0, 1) := by decide +kernel
theorem d_B_work_23 : decode prog_1_method_16_code 23 = .ok (.iload_n 3, 1) := by decide +kernel
theorem d_B_work_24 : decode prog_1_method_16_code 24 = .ok (.invokevirtual 145, 3) := by decide +kernel
theorem d_B_work_27 : decode prog_1_method_16_code 27 = .ok (.ifCond .eq 30, 3) := by decide +kernel
theorem d_B_work_30 : decode prog_1_method_16_code 30 = .ok (.aload_n 0, 1) := by decide +kernel
theorem d_B_work_31 : decode prog_1_method_16_code 31 = .ok (.getfield 10, 3) := by decide +kernel
theorem d_B_work_34 : decode prog_1_method_16_code 34 = .ok (.aload_n 0, 1) := by decide +kernel
theorem d_B_work_35 : decode prog_1_method_16_code 35 = .ok (.getfield 19, 3) := by decide +kernel
theorem d_B_work_38 : decode prog_1_method_16_code 38 = .ok (.iload_n 3, 1) := by decide +kernel
theorem d_B_work_39 : decode prog_1_method_16_code 39 = .ok (.invokevirtual 74, 3) := by decide +kernel
theorem d_B_work_42 : decode prog_1_method_16_code 42 = .ok (.iconst (-1), 1) := by decide +kernel
theorem d_B_work_43 : decode prog_1_method_16_code 43 = .ok (.invokevirtual 89, 3) := by decide +kernel
theorem d_B_work_46 : decode prog_1_method_16_code 46 = .ok (.aload_n 0, 1) := by decide +kernel
theorem d_B_work_47 : decode prog_1_method_16_code 47 = .ok (.getfield 19, 3) := by decide +kernel
theorem d_B_work_50 : decode prog_1_method_16_code 50 = .ok (.iload_n 3, 1) := by decide +kernel
theorem d_B_work_51 : decode prog_1_method_16_code 51 = .ok (.invokevirtual 83, 3) := by decide +kernel
theorem d_B_work_54 : decode prog_1_method_16_code 54 = .ok (.iinc 2 (-1), 3) := by decide +kernel
theorem d_B_work_57 : decode prog_1_method_16_code 57 = .ok (.iinc 3 1, 3) := by decide +kernel
theorem d_B_work_60 : decode prog_1_method_16_code 60 = .ok (.goto (-49), 3) := by decide +kernel
theorem d_B_work_63 : decode prog_1_method_16_code 63 = .ok (.aload_n 0, 1) := by decide +kernel
theorem d_B_work_64 : decode prog_1_method_16_code 64 = .ok (.getfield 19, 3) := by decide +kernel
theorem d_B_work_67 : decode prog_1_method_16_code 67 = .ok (.invokevirtual 86, 3) := by decide +kernel
theorem d_B_work_70 : decode prog_1_method_16_code 70 = .ok (.aload_n 0, 1) := by decide +kernel
theorem d_B_work_71 : decode prog_1_method_16_code 71 = .ok (.getfield 10, 3) := by decide +kernel
theorem d_B_work_74 : decode prog_1_method_16_code 74 = .ok (.invokevirtual 139, 3) := by decide +kernel
theorem d_B_work_77 : decode prog_1_method_16_code 77 = .ok (.aload_n 0, 1) := by decide +kernel
theorem d_B_work_78 : decode prog_1_method_16_code 78 = .ok (.invokevirtual 142, 3) := by decide +kernel
theorem d_B_work_81 : decode prog_1_method_16_code 81 = .ok (.ireturn, 1) := by decide +kernel
theorem d_B_handUp_0 : decode prog_1_method_17_code 0 = .ok (.aload_n 0, 1) := by decide +kernel
theorem d_B_handUp_1 : decode prog_1_method_17_code 1 = .ok (.iload_n 1, 1) := by decide +kernel
theorem d_B_handUp_2 : decode prog_1_method_17_code 2 = .ok (.invokevirtual 130, 3) := by decide +kernel
theorem d_B_handUp_5 : decode prog_1_method_17_code 5 = .ok (.aload_n 0, 1) := by decide +kernel
theorem d_B_handUp_6 : decode prog_1_method_17_code 6 = .ok (.getfield 10, 3) := by decide +kernel
theorem d_B_handUp_9 : decode prog_1_method_17_code 9 = .ok (.iload_n 1, 1) := by decide +kernel
theorem d_B_handUp_10 : decode prog_1_method_17_code 10 = .ok (.invokevirtual 77, 3) := by decide +kernel
theorem d_B_handUp_13 : decode prog_1_method_17_code 13 = .ok (.ifCond .ne 7, 3) := by decide +kernel
theorem d_B_handUp_16 : decode prog_1_method_17_code 16 = .ok (.iconst 1, 1) := by decide +kernel
theorem d_B_handUp_17 : decode prog_1_method_17_code 17 = .ok (.goto 4, 3) := by decide +kernel
theorem d_B_handUp_20 : decode prog_1_method_17_code 20 = .ok (.iconst 0, 1) := by decide +kernel
theorem d_B_handUp_21 : decode prog_1_method_17_code 21 = .ok (.invokestatic 115, 3) := by decide +kernel
theorem d_B_handUp_24 : decode prog_1_method_17_code 24 = .ok (.aload_n 0, 1) := by decide +kernel
theorem d_B_handUp_25 : decode prog_1_method_17_code 25 = .ok (.getfield 19, 3) := by decide +kernel
theorem d_B_handUp_28 : decode prog_1_method_17_code 28 = .ok (.iload_n 1, 1) := by decide +kernel
theorem d_B_handUp_29 : decode prog_1_method_17_code 29 = .ok (.invokevirtual 148, 3) := by decide +kernel
theorem d_B_handUp_32 : decode prog_1_method_17_code 32 = .ok (.istore_n 2, 1) := by decide +kernel
theorem d_B_handUp_33 : decode prog_1_method_17_code 33 = .ok (.aload_n 0, 1) := by decide +kernel
theorem d_B_handUp_34 : decode prog_1_method_17_code 34 = .ok (.getfield 19, 3) := by decide +kernel
theorem d_B_handUp_37 : decode prog_1_method_17_code 37 = .ok (.iload_n 1, 1) := by decide +kernel
theorem d_B_handUp_38 : decode prog_1_method_17_code 38 = .ok (.aload_n 0, 1) := by decide +kernel
theorem d_B_handUp_39 : decode prog_1_method_17_code 39 = .ok (.getfield 10, 3) := by decide +kernel
theorem d_B_handUp_42 : decode prog_1_method_17_code 42 = .ok (.iload_n 1, 1) := by decide +kernel
theorem d_B_handUp_43 : decode prog_1_method_17_code 43 = .ok (.invokevirtual 151, 3) := by decide +kernel
theorem d_B_handUp_46 : decode prog_1_method_17_code 46 = .ok (.invokevirtual 154, 3) := by decide +kernel
theorem d_B_handUp_49 : decode prog_1_method_17_code 49 = .ok (.aload_n 0, 1) := by decide +kernel
theorem d_B_handUp_50 : decode prog_1_method_17_code 50 = .ok (.getfield 10, 3) := by decide +kernel
theorem d_B_handUp_53 : decode prog_1_method_17_code 53 = .ok (.iload_n 1, 1) := by decide +kernel
theorem d_B_handUp_54 : decode prog_1_method_17_code 54 = .ok (.invokevirtual 157, 3) := by decide +kernel
theorem d_B_handUp_57 : decode prog_1_method_17_code 57 = .ok (.iload_n 2, 1) := by decide +kernel
theorem d_B_handUp_58 : decode prog_1_method_17_code 58 = .ok (.ireturn, 1) := by decide +kernel
theorem d_B_told_0 : decode prog_1_method_18_code 0 = .ok (.aload_n 0, 1) := by decide +kernel
theorem d_B_told_1 : decode prog_1_method_18_code 1 = .ok (.iload_n 1, 1) := by decide +kernel
theorem d_B_told_2 : decode prog_1_method_18_code 2 = .ok (.invokevirtual 27, 3) := by decide +kernel
theorem d_B_told_5 : decode prog_1_method_18_code 5 = .ok (.iload_n 2, 1) := by decide +kernel
theorem d_B_told_6 : decode prog_1_method_18_code 6 = .ok (.tableswitch 118 0 7 #[46, 55, 64, 73, 82, 91, 100, 109], 46) := by decide +kernel
theorem d_B_told_52 : decode prog_1_method_18_code 52 = .ok (.aload_n 0, 1) := by decide +kernel
theorem d_B_told_53 : decode prog_1_method_18_code 53 = .ok (.getfield 10, 3) := by decide +kernel
theorem d_B_told_56 : decode prog_1_method_18_code 56 = .ok (.iload_n 1, 1) := by decide +kernel
theorem d_B_told_57 : decode prog_1_method_18_code 57 = .ok (.invokevirtual 112, 3) := by decide +kernel
theorem d_B_told_60 : decode prog_1_method_18_code 60 = .ok (.ireturn, 1) := by decide +kernel
theorem d_B_told_61 : decode prog_1_method_18_code 61 = .ok (.aload_n 0, 1) := by decide +kernel
theorem d_B_told_62 : decode prog_1_method_18_code 62 = .ok (.getfield 19, 3) := by decide +kernel
theorem d_B_told_65 : decode prog_1_method_18_code 65 = .ok (.iload_n 1, 1) := by decide +kernel
theorem d_B_told_66 : decode prog_1_method_18_code 66 = .ok (.invokevirtual 148, 3) := by decide +kernel
theorem d_B_told_69 : decode prog_1_method_18_code 69 = .ok (.ireturn, 1) := by decide +kernel
theorem d_B_told_70 : decode prog_1_method_18_code 70 = .ok (.aload_n 0, 1) := by decide +kernel
theorem d_B_told_71 : decode prog_1_method_18_code 71 = .ok (.getfield 10, 3) := by decide +kernel
theorem d_B_told_74 : decode prog_1_method_18_code 74 = .ok (.iload_n 1, 1) := by decide +kernel
theorem d_B_told_75 : decode prog_1_method_18_code 75 = .ok (.invokevirtual 127, 3) := by decide +kernel
theorem d_B_told_78 : decode prog_1_method_18_code 78 = .ok (.ireturn, 1) := by decide +kernel
theorem d_B_told_79 : decode prog_1_method_18_code 79 = .ok (.aload_n 0, 1) := by decide +kernel
theorem d_B_told_80 : decode prog_1_method_18_code 80 = .ok (.getfield 10, 3) := by decide +kernel
theorem d_B_told_83 : decode prog_1_method_18_code 83 = .ok (.iload_n 1, 1) := by decide +kernel
theorem d_B_told_84 : decode prog_1_method_18_code 84 = .ok (.invokevirtual 160, 3) := by decide +kernel
theorem d_B_told_87 : decode prog_1_method_18_code 87 = .ok (.ireturn, 1) := by decide +kernel
theorem d_B_told_88 : decode prog_1_method_18_code 88 = .ok (.aload_n 0, 1) := by decide +kernel
theorem d_B_told_89 : decode prog_1_method_18_code 89 = .ok (.getfield 10, 3) := by decide +kernel
theorem d_B_told_92 : decode prog_1_method_18_code 92 = .ok (.iload_n 1, 1) := by decide +kernel
theorem d_B_told_93 : decode prog_1_method_18_code 93 = .ok (.invokevirtual 151, 3) := by decide +kernel
theorem d_B_told_96 : decode prog_1_method_18_code 96 = .ok (.ireturn, 1) := by decide +kernel
theorem d_B_told_97 : decode prog_1_method_18_code 97 = .ok (.aload_n 0, 1) := by decide +kernel
theorem d_B_told_98 : decode prog_1_method_18_code 98 = .ok (.getfield 10, 3) := by decide +kernel
theorem d_B_told_101 : decode prog_1_method_18_code 101 = .ok (.iload_n 1, 1) := by decide +kernel
theorem d_B_told_102 : decode prog_1_method_18_code 102 = .ok (.invokevirtual 46, 3) := by decide +kernel
theorem d_B_told_105 : decode prog_1_method_18_code 105 = .ok (.ireturn, 1) := by decide +kernel
theorem d_B_told_106 : decode prog_1_method_18_code 106 = .ok (.aload_n 0, 1) := by decide +kernel
theorem d_B_told_107 : decode prog_1_method_18_code 107 = .ok (.getfield 10, 3) := by decide +kernel
theorem d_B_told_110 : decode prog_1_method_18_code 110 = .ok (.iload_n 1, 1) := by decide +kernel
theorem d_B_told_111 : decode prog_1_method_18_code 111 = .ok (.invokevirtual 163, 3) := by decide +kernel
theorem d_B_told_114 : decode prog_1_method_18_code 114 = .ok (.ireturn, 1) := by decide +kernel
theorem d_B_told_115 : decode prog_1_method_18_code 115 = .ok (.aload_n 0, 1) := by decide +kernel
theorem d_B_told_116 : decode prog_1_method_18_code 116 = .ok (.getfield 10, 3) := by decide +kernel
theorem d_B_told_119 : decode prog_1_method_18_code 119 = .ok (.iload_n 1, 1) := by decide +kernel
theorem d_B_told_120 : decode prog_1_method_18_code 120 = .ok (.invokevirtual 166, 3) := by decide +kernel
theorem d_B_told_123 : decode prog_1_method_18_code 123 = .ok (.ireturn, 1) := by decide +kernel
theorem d_B_told_124 : decode prog_1_method_18_code 124 = .ok (.new 169, 3) := by decide +kernel
theorem d_B_told_127 : decode prog_1_method_18_code 127 = .ok (.dup, 1) := by decide +kernel
theorem d_B_told_128 : decode prog_1_method_18_code 128 = .ok (.invokespecial 171, 3) := by decide +kernel
theorem d_B_told_131 : decode prog_1_method_18_code 131 = .ok (.athrow, 1) := by decide +kernel
theorem d_B_page_0 : decode prog_1_method_19_code 0 = .ok (.aload_n 0, 1) := by decide +kernel
theorem d_B_page_1 : decode prog_1_method_19_code 1 = .ok (.iload_n 1, 1) := by decide +kernel
theorem d_B_page_2 : decode prog_1_method_19_code 2 = .ok (.invokevirtual 27, 3) := by decide +kernel
theorem d_B_page_5 : decode prog_1_method_19_code 5 = .ok (.aload_n 0, 1) := by decide +kernel
theorem d_B_page_6 : decode prog_1_method_19_code 6 = .ok (.getfield 19, 3) := by decide +kernel
theorem d_B_page_9 : decode prog_1_method_19_code 9 = .ok (.iload_n 1, 1) := by decide +kernel
theorem d_B_page_10 : decode prog_1_method_19_code 10 = .ok (.iload_n 2, 1) := by decide +kernel
theorem d_B_page_11 : decode prog_1_method_19_code 11 = .ok (.invokevirtual 172, 3) := by decide +kernel
theorem d_B_page_14 : decode prog_1_method_19_code 14 = .ok (.istore_n 3, 1) := by decide +kernel
theorem d_B_page_15 : decode prog_1_method_19_code 15 = .ok (.iload_n 3, 1) := by decide +kernel
theorem d_B_page_16 : decode prog_1_method_19_code 16 = .ok (.iconst (-1), 1) := by decide +kernel
theorem d_B_page_17 : decode prog_1_method_19_code 17 = .ok (.if_icmp .eq 7, 3) := by decide +kernel
theorem d_B_page_20 : decode prog_1_method_19_code 20 = .ok (.iconst 1, 1) := by decide +kernel
theorem d_B_page_21 : decode prog_1_method_19_code 21 = .ok (.goto 4, 3) := by decide +kernel
theorem d_B_page_24 : decode prog_1_method_19_code 24 = .ok (.iconst 0, 1) := by decide +kernel
theorem d_B_page_25 : decode prog_1_method_19_code 25 = .ok (.invokestatic 96, 3) := by decide +kernel
theorem d_B_page_28 : decode prog_1_method_19_code 28 = .ok (.aload_n 0, 1) := by decide +kernel
theorem d_B_page_29 : decode prog_1_method_19_code 29 = .ok (.getfield 10, 3) := by decide +kernel
theorem d_B_page_32 : decode prog_1_method_19_code 32 = .ok (.iload_n 1, 1) := by decide +kernel
theorem d_B_page_33 : decode prog_1_method_19_code 33 = .ok (.invokevirtual 77, 3) := by decide +kernel
theorem d_B_page_36 : decode prog_1_method_19_code 36 = .ok (.ifCond .eq 7, 3) := by decide +kernel
theorem d_B_page_39 : decode prog_1_method_19_code 39 = .ok (.iconst 0, 1) := by decide +kernel
theorem d_B_page_40 : decode prog_1_method_19_code 40 = .ok (.goto 11, 3) := by decide +kernel
theorem d_B_page_43 : decode prog_1_method_19_code 43 = .ok (.aload_n 0, 1) := by decide +kernel
theorem d_B_page_44 : decode prog_1_method_19_code 44 = .ok (.getfield 19, 3) := by decide +kernel
theorem d_B_page_47 : decode prog_1_method_19_code 47 = .ok (.iload_n 3, 1) := by decide +kernel
theorem d_B_page_48 : decode prog_1_method_19_code 48 = .ok (.invokevirtual 80, 3) := by decide +kernel
theorem d_B_page_51 : decode prog_1_method_19_code 51 = .ok (.ireturn, 1) := by decide +kernel
theorem d_B_owner_0 : decode prog_1_method_20_code 0 = .ok (.aload_n 0, 1) := by decide +kernel
theorem d_B_owner_1 : decode prog_1_method_20_code 1 = .ok (.iload_n 1, 1) := by decide +kernel
theorem d_B_owner_2 : decode prog_1_method_20_code 2 = .ok (.invokevirtual 61, 3) := by decide +kernel
theorem d_B_owner_5 : decode prog_1_method_20_code 5 = .ok (.aload_n 0, 1) := by decide +kernel
theorem d_B_owner_6 : decode prog_1_method_20_code 6 = .ok (.getfield 19, 3) := by decide +kernel
theorem d_B_owner_9 : decode prog_1_method_20_code 9 = .ok (.iload_n 1, 1) := by decide +kernel
theorem d_B_owner_10 : decode prog_1_method_20_code 10 = .ok (.invokestatic 67, 3) := by decide +kernel
theorem d_B_owner_13 : decode prog_1_method_20_code 13 = .ok (.invokevirtual 74, 3) := by decide +kernel
theorem d_B_owner_16 : decode prog_1_method_20_code 16 = .ok (.ireturn, 1) := by decide +kernel
