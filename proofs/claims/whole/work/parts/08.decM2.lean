theorem d_M_limit_33 : decode prog_5_method_29_code 33 = .ok (.iload_n 1, 1) := by decide +kernel
theorem d_M_limit_34 : decode prog_5_method_29_code 34 = .ok (.invokevirtual 60, 3) := by decide +kernel
theorem d_M_limit_37 : decode prog_5_method_29_code 37 = .ok (.iload_n 2, 1) := by decide +kernel
theorem d_M_limit_38 : decode prog_5_method_29_code 38 = .ok (.if_icmp .gt 13, 3) := by decide +kernel
theorem d_M_limit_41 : decode prog_5_method_29_code 41 = .ok (.aload_n 0, 1) := by decide +kernel
theorem d_M_limit_42 : decode prog_5_method_29_code 42 = .ok (.getfield 35, 3) := by decide +kernel
theorem d_M_limit_45 : decode prog_5_method_29_code 45 = .ok (.iload_n 1, 1) := by decide +kernel
theorem d_M_limit_46 : decode prog_5_method_29_code 46 = .ok (.iaload, 1) := by decide +kernel
theorem d_M_limit_47 : decode prog_5_method_29_code 47 = .ok (.iconst 2, 1) := by decide +kernel
theorem d_M_limit_48 : decode prog_5_method_29_code 48 = .ok (.if_icmp .ne 7, 3) := by decide +kernel
theorem d_M_limit_51 : decode prog_5_method_29_code 51 = .ok (.iconst 3, 1) := by decide +kernel
theorem d_M_limit_52 : decode prog_5_method_29_code 52 = .ok (.goto 4, 3) := by decide +kernel
theorem d_M_limit_55 : decode prog_5_method_29_code 55 = .ok (.iconst 0, 1) := by decide +kernel
theorem d_M_limit_56 : decode prog_5_method_29_code 56 = .ok (.putfield 45, 3) := by decide +kernel
theorem d_M_limit_59 : decode prog_5_method_29_code 59 = .ok (.aload_n 0, 1) := by decide +kernel
theorem d_M_limit_60 : decode prog_5_method_29_code 60 = .ok (.getfield 45, 3) := by decide +kernel
theorem d_M_limit_63 : decode prog_5_method_29_code 63 = .ok (.ifCond .le 5, 3) := by decide +kernel
theorem d_M_limit_66 : decode prog_5_method_29_code 66 = .ok (.iconst 0, 1) := by decide +kernel
theorem d_M_limit_67 : decode prog_5_method_29_code 67 = .ok (.ireturn, 1) := by decide +kernel
theorem d_M_limit_68 : decode prog_5_method_29_code 68 = .ok (.aload_n 0, 1) := by decide +kernel
theorem d_M_limit_69 : decode prog_5_method_29_code 69 = .ok (.getfield 32, 3) := by decide +kernel
theorem d_M_limit_72 : decode prog_5_method_29_code 72 = .ok (.iload_n 1, 1) := by decide +kernel
theorem d_M_limit_73 : decode prog_5_method_29_code 73 = .ok (.iaload, 1) := by decide +kernel
theorem d_M_limit_74 : decode prog_5_method_29_code 74 = .ok (.istore_n 3, 1) := by decide +kernel
theorem d_M_limit_75 : decode prog_5_method_29_code 75 = .ok (.aload_n 0, 1) := by decide +kernel
theorem d_M_limit_76 : decode prog_5_method_29_code 76 = .ok (.getfield 32, 3) := by decide +kernel
theorem d_M_limit_79 : decode prog_5_method_29_code 79 = .ok (.iload_n 1, 1) := by decide +kernel
theorem d_M_limit_80 : decode prog_5_method_29_code 80 = .ok (.iload_n 2, 1) := by decide +kernel
theorem d_M_limit_81 : decode prog_5_method_29_code 81 = .ok (.iastore, 1) := by decide +kernel
theorem d_M_limit_82 : decode prog_5_method_29_code 82 = .ok (.iload_n 3, 1) := by decide +kernel
theorem d_M_limit_83 : decode prog_5_method_29_code 83 = .ok (.ireturn, 1) := by decide +kernel
theorem d_M_reserve_0 : decode prog_5_method_30_code 0 = .ok (.aload_n 0, 1) := by decide +kernel
theorem d_M_reserve_1 : decode prog_5_method_30_code 1 = .ok (.aload_n 0, 1) := by decide +kernel
theorem d_M_reserve_2 : decode prog_5_method_30_code 2 = .ok (.iload_n 1, 1) := by decide +kernel
theorem d_M_reserve_3 : decode prog_5_method_30_code 3 = .ok (.invokevirtual 63, 3) := by decide +kernel
theorem d_M_reserve_6 : decode prog_5_method_30_code 6 = .ok (.ifCond .ne 7, 3) := by decide +kernel
theorem d_M_reserve_9 : decode prog_5_method_30_code 9 = .ok (.iconst 1, 1) := by decide +kernel
theorem d_M_reserve_10 : decode prog_5_method_30_code 10 = .ok (.goto 31, 3) := by decide +kernel
theorem d_M_reserve_13 : decode prog_5_method_30_code 13 = .ok (.iload_n 2, 1) := by decide +kernel
theorem d_M_reserve_14 : decode prog_5_method_30_code 14 = .ok (.iconst 0, 1) := by decide +kernel
theorem d_M_reserve_15 : decode prog_5_method_30_code 15 = .ok (.sipush 192, 3) := by decide +kernel
theorem d_M_reserve_18 : decode prog_5_method_30_code 18 = .ok (.invokestatic 48, 3) := by decide +kernel
theorem d_M_reserve_21 : decode prog_5_method_30_code 21 = .ok (.ifCond .ne 7, 3) := by decide +kernel
theorem d_M_reserve_24 : decode prog_5_method_30_code 24 = .ok (.iconst 2, 1) := by decide +kernel
theorem d_M_reserve_25 : decode prog_5_method_30_code 25 = .ok (.goto 16, 3) := by decide +kernel
theorem d_M_reserve_28 : decode prog_5_method_30_code 28 = .ok (.aload_n 0, 1) := by decide +kernel
theorem d_M_reserve_29 : decode prog_5_method_30_code 29 = .ok (.iload_n 1, 1) := by decide +kernel
theorem d_M_reserve_30 : decode prog_5_method_30_code 30 = .ok (.invokevirtual 67, 3) := by decide +kernel
theorem d_M_reserve_33 : decode prog_5_method_30_code 33 = .ok (.ifCond .ne 7, 3) := by decide +kernel
theorem d_M_reserve_36 : decode prog_5_method_30_code 36 = .ok (.iconst 3, 1) := by decide +kernel
theorem d_M_reserve_37 : decode prog_5_method_30_code 37 = .ok (.goto 4, 3) := by decide +kernel
theorem d_M_reserve_40 : decode prog_5_method_30_code 40 = .ok (.iconst 0, 1) := by decide +kernel
theorem d_M_reserve_41 : decode prog_5_method_30_code 41 = .ok (.putfield 45, 3) := by decide +kernel
theorem d_M_reserve_44 : decode prog_5_method_30_code 44 = .ok (.aload_n 0, 1) := by decide +kernel
theorem d_M_reserve_45 : decode prog_5_method_30_code 45 = .ok (.getfield 45, 3) := by decide +kernel
theorem d_M_reserve_48 : decode prog_5_method_30_code 48 = .ok (.ifCond .le 5, 3) := by decide +kernel
theorem d_M_reserve_51 : decode prog_5_method_30_code 51 = .ok (.iconst 0, 1) := by decide +kernel
theorem d_M_reserve_52 : decode prog_5_method_30_code 52 = .ok (.ireturn, 1) := by decide +kernel
theorem d_M_reserve_53 : decode prog_5_method_30_code 53 = .ok (.aload_n 0, 1) := by decide +kernel
theorem d_M_reserve_54 : decode prog_5_method_30_code 54 = .ok (.iload_n 1, 1) := by decide +kernel
theorem d_M_reserve_55 : decode prog_5_method_30_code 55 = .ok (.iload_n 2, 1) := by decide +kernel
theorem d_M_reserve_56 : decode prog_5_method_30_code 56 = .ok (.invokevirtual 83, 3) := by decide +kernel
theorem d_M_reserve_59 : decode prog_5_method_30_code 59 = .ok (.istore_n 3, 1) := by decide +kernel
theorem d_M_reserve_60 : decode prog_5_method_30_code 60 = .ok (.iload_n 3, 1) := by decide +kernel
theorem d_M_reserve_61 : decode prog_5_method_30_code 61 = .ok (.ifCond .lt 15, 3) := by decide +kernel
theorem d_M_reserve_64 : decode prog_5_method_30_code 64 = .ok (.aload_n 0, 1) := by decide +kernel
theorem d_M_reserve_65 : decode prog_5_method_30_code 65 = .ok (.aload_n 0, 1) := by decide +kernel
theorem d_M_reserve_66 : decode prog_5_method_30_code 66 = .ok (.iconst 4, 1) := by decide +kernel
theorem d_M_reserve_67 : decode prog_5_method_30_code 67 = .ok (.iload_n 3, 1) := by decide +kernel
theorem d_M_reserve_68 : decode prog_5_method_30_code 68 = .ok (.invokevirtual 73, 3) := by decide +kernel
theorem d_M_reserve_71 : decode prog_5_method_30_code 71 = .ok (.putfield 45, 3) := by decide +kernel
theorem d_M_reserve_74 : decode prog_5_method_30_code 74 = .ok (.iconst 0, 1) := by decide +kernel
theorem d_M_reserve_75 : decode prog_5_method_30_code 75 = .ok (.ireturn, 1) := by decide +kernel
theorem d_M_reserve_76 : decode prog_5_method_30_code 76 = .ok (.aload_n 0, 1) := by decide +kernel
theorem d_M_reserve_77 : decode prog_5_method_30_code 77 = .ok (.getfield 38, 3) := by decide +kernel
theorem d_M_reserve_80 : decode prog_5_method_30_code 80 = .ok (.iload_n 1, 1) := by decide +kernel
theorem d_M_reserve_81 : decode prog_5_method_30_code 81 = .ok (.dup2, 1) := by decide +kernel
theorem d_M_reserve_82 : decode prog_5_method_30_code 82 = .ok (.iaload, 1) := by decide +kernel
theorem d_M_reserve_83 : decode prog_5_method_30_code 83 = .ok (.iload_n 2, 1) := by decide +kernel
theorem d_M_reserve_84 : decode prog_5_method_30_code 84 = .ok (.iadd, 1) := by decide +kernel
theorem d_M_reserve_85 : decode prog_5_method_30_code 85 = .ok (.iastore, 1) := by decide +kernel
theorem d_M_reserve_86 : decode prog_5_method_30_code 86 = .ok (.aload_n 0, 1) := by decide +kernel
theorem d_M_reserve_87 : decode prog_5_method_30_code 87 = .ok (.getfield 38, 3) := by decide +kernel
theorem d_M_reserve_90 : decode prog_5_method_30_code 90 = .ok (.iload_n 1, 1) := by decide +kernel
theorem d_M_reserve_91 : decode prog_5_method_30_code 91 = .ok (.iaload, 1) := by decide +kernel
theorem d_M_reserve_92 : decode prog_5_method_30_code 92 = .ok (.ireturn, 1) := by decide +kernel
theorem d_M_unreserve_0 : decode prog_5_method_31_code 0 = .ok (.aload_n 0, 1) := by decide +kernel
theorem d_M_unreserve_1 : decode prog_5_method_31_code 1 = .ok (.aload_n 0, 1) := by decide +kernel
theorem d_M_unreserve_2 : decode prog_5_method_31_code 2 = .ok (.iload_n 1, 1) := by decide +kernel
theorem d_M_unreserve_3 : decode prog_5_method_31_code 3 = .ok (.invokevirtual 63, 3) := by decide +kernel
theorem d_M_unreserve_6 : decode prog_5_method_31_code 6 = .ok (.ifCond .ne 7, 3) := by decide +kernel
theorem d_M_unreserve_9 : decode prog_5_method_31_code 9 = .ok (.iconst 1, 1) := by decide +kernel
theorem d_M_unreserve_10 : decode prog_5_method_31_code 10 = .ok (.goto 22, 3) := by decide +kernel
theorem d_M_unreserve_13 : decode prog_5_method_31_code 13 = .ok (.iload_n 2, 1) := by decide +kernel
theorem d_M_unreserve_14 : decode prog_5_method_31_code 14 = .ok (.iconst 0, 1) := by decide +kernel
theorem d_M_unreserve_15 : decode prog_5_method_31_code 15 = .ok (.aload_n 0, 1) := by decide +kernel
theorem d_M_unreserve_16 : decode prog_5_method_31_code 16 = .ok (.getfield 38, 3) := by decide +kernel
theorem d_M_unreserve_19 : decode prog_5_method_31_code 19 = .ok (.iload_n 1, 1) := by decide +kernel
theorem d_M_unreserve_20 : decode prog_5_method_31_code 20 = .ok (.iaload, 1) := by decide +kernel
theorem d_M_unreserve_21 : decode prog_5_method_31_code 21 = .ok (.invokestatic 48, 3) := by decide +kernel
theorem d_M_unreserve_24 : decode prog_5_method_31_code 24 = .ok (.ifCond .eq 7, 3) := by decide +kernel
theorem d_M_unreserve_27 : decode prog_5_method_31_code 27 = .ok (.iconst 0, 1) := by decide +kernel
theorem d_M_unreserve_28 : decode prog_5_method_31_code 28 = .ok (.goto 4, 3) := by decide +kernel
theorem d_M_unreserve_31 : decode prog_5_method_31_code 31 = .ok (.iconst 2, 1) := by decide +kernel
theorem d_M_unreserve_32 : decode prog_5_method_31_code 32 = .ok (.putfield 45, 3) := by decide +kernel
theorem d_M_unreserve_35 : decode prog_5_method_31_code 35 = .ok (.aload_n 0, 1) := by decide +kernel
theorem d_M_unreserve_36 : decode prog_5_method_31_code 36 = .ok (.getfield 45, 3) := by decide +kernel
theorem d_M_unreserve_39 : decode prog_5_method_31_code 39 = .ok (.ifCond .le 5, 3) := by decide +kernel
theorem d_M_unreserve_42 : decode prog_5_method_31_code 42 = .ok (.iconst 0, 1) := by decide +kernel
theorem d_M_unreserve_43 : decode prog_5_method_31_code 43 = .ok (.ireturn, 1) := by decide +kernel
theorem d_M_unreserve_44 : decode prog_5_method_31_code 44 = .ok (.aload_n 0, 1) := by decide +kernel
theorem d_M_unreserve_45 : decode prog_5_method_31_code 45 = .ok (.getfield 38, 3) := by decide +kernel
theorem d_M_unreserve_48 : decode prog_5_method_31_code 48 = .ok (.iload_n 1, 1) := by decide +kernel
theorem d_M_unreserve_49 : decode prog_5_method_31_code 49 = .ok (.dup2, 1) := by decide +kernel
theorem d_M_unreserve_50 : decode prog_5_method_31_code 50 = .ok (.iaload, 1) := by decide +kernel
theorem d_M_unreserve_51 : decode prog_5_method_31_code 51 = .ok (.iload_n 2, 1) := by decide +kernel
theorem d_M_unreserve_52 : decode prog_5_method_31_code 52 = .ok (.isub, 1) := by decide +kernel
theorem d_M_unreserve_53 : decode prog_5_method_31_code 53 = .ok (.iastore, 1) := by decide +kernel
theorem d_M_unreserve_54 : decode prog_5_method_31_code 54 = .ok (.aload_n 0, 1) := by decide +kernel
theorem d_M_unreserve_55 : decode prog_5_method_31_code 55 = .ok (.getfield 38, 3) := by decide +kernel
theorem d_M_unreserve_58 : decode prog_5_method_31_code 58 = .ok (.iload_n 1, 1) := by decide +kernel
theorem d_M_unreserve_59 : decode prog_5_method_31_code 59 = .ok (.iaload, 1) := by decide +kernel
theorem d_M_unreserve_60 : decode prog_5_method_31_code 60 = .ok (.ireturn, 1) := by decide +kernel
theorem d_M_freeze_0 : decode prog_5_method_33_code 0 = .ok (.aload_n 0, 1) := by decide +kernel
theorem d_M_freeze_1 : decode prog_5_method_33_code 1 = .ok (.aload_n 0, 1) := by decide +kernel
theorem d_M_freeze_2 : decode prog_5_method_33_code 2 = .ok (.iload_n 1, 1) := by decide +kernel
theorem d_M_freeze_3 : decode prog_5_method_33_code 3 = .ok (.invokevirtual 112, 3) := by decide +kernel
theorem d_M_freeze_6 : decode prog_5_method_33_code 6 = .ok (.putfield 45, 3) := by decide +kernel
theorem d_M_freeze_9 : decode prog_5_method_33_code 9 = .ok (.aload_n 0, 1) := by decide +kernel
theorem d_M_freeze_10 : decode prog_5_method_33_code 10 = .ok (.getfield 45, 3) := by decide +kernel
theorem d_M_freeze_13 : decode prog_5_method_33_code 13 = .ok (.ifCond .le 5, 3) := by decide +kernel
theorem d_M_freeze_16 : decode prog_5_method_33_code 16 = .ok (.iconst 0, 1) := by decide +kernel
theorem d_M_freeze_17 : decode prog_5_method_33_code 17 = .ok (.ireturn, 1) := by decide +kernel
theorem d_M_freeze_18 : decode prog_5_method_33_code 18 = .ok (.aload_n 0, 1) := by decide +kernel
theorem d_M_freeze_19 : decode prog_5_method_33_code 19 = .ok (.getfield 35, 3) := by decide +kernel
theorem d_M_freeze_22 : decode prog_5_method_33_code 22 = .ok (.iload_n 1, 1) := by decide +kernel
theorem d_M_freeze_23 : decode prog_5_method_33_code 23 = .ok (.iaload, 1) := by decide +kernel
theorem d_M_freeze_24 : decode prog_5_method_33_code 24 = .ok (.iconst 1, 1) := by decide +kernel
theorem d_M_freeze_25 : decode prog_5_method_33_code 25 = .ok (.if_icmp .ne 7, 3) := by decide +kernel
theorem d_M_freeze_28 : decode prog_5_method_33_code 28 = .ok (.iconst 1, 1) := by decide +kernel
theorem d_M_freeze_29 : decode prog_5_method_33_code 29 = .ok (.goto 4, 3) := by decide +kernel
theorem d_M_freeze_32 : decode prog_5_method_33_code 32 = .ok (.iconst 0, 1) := by decide +kernel
theorem d_M_freeze_33 : decode prog_5_method_33_code 33 = .ok (.istore_n 3, 1) := by decide +kernel
theorem d_M_freeze_34 : decode prog_5_method_33_code 34 = .ok (.aload_n 0, 1) := by decide +kernel
theorem d_M_freeze_35 : decode prog_5_method_33_code 35 = .ok (.getfield 35, 3) := by decide +kernel
theorem d_M_freeze_38 : decode prog_5_method_33_code 38 = .ok (.iload_n 1, 1) := by decide +kernel
theorem d_M_freeze_39 : decode prog_5_method_33_code 39 = .ok (.iload_n 2, 1) := by decide +kernel
theorem d_M_freeze_40 : decode prog_5_method_33_code 40 = .ok (.ifCond .eq 7, 3) := by decide +kernel
theorem d_M_freeze_43 : decode prog_5_method_33_code 43 = .ok (.iconst 1, 1) := by decide +kernel
theorem d_M_freeze_44 : decode prog_5_method_33_code 44 = .ok (.goto 4, 3) := by decide +kernel
theorem d_M_freeze_47 : decode prog_5_method_33_code 47 = .ok (.iconst 0, 1) := by decide +kernel
theorem d_M_freeze_48 : decode prog_5_method_33_code 48 = .ok (.iastore, 1) := by decide +kernel
theorem d_M_freeze_49 : decode prog_5_method_33_code 49 = .ok (.iload_n 3, 1) := by decide +kernel
theorem d_M_freeze_50 : decode prog_5_method_33_code 50 = .ok (.ireturn, 1) := by decide +kernel
theorem d_M_wrong_0 : decode prog_5_method_32_code 0 = .ok (.aload_n 0, 1) := by decide +kernel
theorem d_M_wrong_1 : decode prog_5_method_32_code 1 = .ok (.iload_n 1, 1) := by decide +kernel
theorem d_M_wrong_2 : decode prog_5_method_32_code 2 = .ok (.invokevirtual 63, 3) := by decide +kernel
theorem d_M_wrong_5 : decode prog_5_method_32_code 5 = .ok (.ifCond .ne 7, 3) := by decide +kernel
theorem d_M_wrong_8 : decode prog_5_method_32_code 8 = .ok (.iconst 1, 1) := by decide +kernel
theorem d_M_wrong_9 : decode prog_5_method_32_code 9 = .ok (.goto 26, 3) := by decide +kernel
theorem d_M_wrong_12 : decode prog_5_method_32_code 12 = .ok (.iload_n 1, 1) := by decide +kernel
theorem d_M_wrong_13 : decode prog_5_method_32_code 13 = .ok (.ifCond .ne 7, 3) := by decide +kernel
theorem d_M_wrong_16 : decode prog_5_method_32_code 16 = .ok (.iconst 2, 1) := by decide +kernel
theorem d_M_wrong_17 : decode prog_5_method_32_code 17 = .ok (.goto 18, 3) := by decide +kernel
theorem d_M_wrong_20 : decode prog_5_method_32_code 20 = .ok (.aload_n 0, 1) := by decide +kernel
theorem d_M_wrong_21 : decode prog_5_method_32_code 21 = .ok (.getfield 35, 3) := by decide +kernel
theorem d_M_wrong_24 : decode prog_5_method_32_code 24 = .ok (.iload_n 1, 1) := by decide +kernel
theorem d_M_wrong_25 : decode prog_5_method_32_code 25 = .ok (.iaload, 1) := by decide +kernel
theorem d_M_wrong_26 : decode prog_5_method_32_code 26 = .ok (.iconst 2, 1) := by decide +kernel
theorem d_M_wrong_27 : decode prog_5_method_32_code 27 = .ok (.if_icmp .ne 7, 3) := by decide +kernel
theorem d_M_wrong_30 : decode prog_5_method_32_code 30 = .ok (.iconst 3, 1) := by decide +kernel
theorem d_M_wrong_31 : decode prog_5_method_32_code 31 = .ok (.goto 4, 3) := by decide +kernel
theorem d_M_wrong_34 : decode prog_5_method_32_code 34 = .ok (.iconst 0, 1) := by decide +kernel
theorem d_M_wrong_35 : decode prog_5_method_32_code 35 = .ok (.ireturn, 1) := by decide +kernel
theorem d_M_destroy_0 : decode prog_5_method_38_code 0 = .ok (.aload_n 0, 1) := by decide +kernel
theorem d_M_destroy_1 : decode prog_5_method_38_code 1 = .ok (.aload_n 0, 1) := by decide +kernel
theorem d_M_destroy_2 : decode prog_5_method_38_code 2 = .ok (.iload_n 1, 1) := by decide +kernel
theorem d_M_destroy_3 : decode prog_5_method_38_code 3 = .ok (.invokevirtual 112, 3) := by decide +kernel
theorem d_M_destroy_6 : decode prog_5_method_38_code 6 = .ok (.putfield 45, 3) := by decide +kernel
theorem d_M_destroy_9 : decode prog_5_method_38_code 9 = .ok (.aload_n 0, 1) := by decide +kernel
theorem d_M_destroy_10 : decode prog_5_method_38_code 10 = .ok (.getfield 45, 3) := by decide +kernel
theorem d_M_destroy_13 : decode prog_5_method_38_code 13 = .ok (.ifCond .le 5, 3) := by decide +kernel
theorem d_M_destroy_16 : decode prog_5_method_38_code 16 = .ok (.iconst 0, 1) := by decide +kernel
theorem d_M_destroy_17 : decode prog_5_method_38_code 17 = .ok (.ireturn, 1) := by decide +kernel
theorem d_M_destroy_18 : decode prog_5_method_38_code 18 = .ok (.iconst 0, 1) := by decide +kernel
theorem d_M_destroy_19 : decode prog_5_method_38_code 19 = .ok (.istore_n 2, 1) := by decide +kernel
theorem d_M_destroy_20 : decode prog_5_method_38_code 20 = .ok (.iload_n 2, 1) := by decide +kernel
theorem d_M_destroy_21 : decode prog_5_method_38_code 21 = .ok (.bipush 40, 2) := by decide +kernel
theorem d_M_destroy_23 : decode prog_5_method_38_code 23 = .ok (.if_icmp .ge 41, 3) := by decide +kernel
theorem d_M_destroy_26 : decode prog_5_method_38_code 26 = .ok (.aload_n 0, 1) := by decide +kernel
theorem d_M_destroy_27 : decode prog_5_method_38_code 27 = .ok (.getfield 25, 3) := by decide +kernel
theorem d_M_destroy_30 : decode prog_5_method_38_code 30 = .ok (.iload_n 2, 1) := by decide +kernel
theorem d_M_destroy_31 : decode prog_5_method_38_code 31 = .ok (.baload, 1) := by decide +kernel
theorem d_M_destroy_32 : decode prog_5_method_38_code 32 = .ok (.ifCond .eq 26, 3) := by decide +kernel
theorem d_M_destroy_35 : decode prog_5_method_38_code 35 = .ok (.aload_n 0, 1) := by decide +kernel
theorem d_M_destroy_36 : decode prog_5_method_38_code 36 = .ok (.iload_n 2, 1) := by decide +kernel
theorem d_M_destroy_37 : decode prog_5_method_38_code 37 = .ok (.iload_n 1, 1) := by decide +kernel
theorem d_M_destroy_38 : decode prog_5_method_38_code 38 = .ok (.invokevirtual 52, 3) := by decide +kernel
theorem d_M_destroy_41 : decode prog_5_method_38_code 41 = .ok (.ifCond .eq 17, 3) := by decide +kernel
theorem d_M_destroy_44 : decode prog_5_method_38_code 44 = .ok (.aload_n 0, 1) := by decide +kernel
theorem d_M_destroy_45 : decode prog_5_method_38_code 45 = .ok (.getfield 35, 3) := by decide +kernel
theorem d_M_destroy_48 : decode prog_5_method_38_code 48 = .ok (.iload_n 2, 1) := by decide +kernel
theorem d_M_destroy_49 : decode prog_5_method_38_code 49 = .ok (.iconst 2, 1) := by decide +kernel
theorem d_M_destroy_50 : decode prog_5_method_38_code 50 = .ok (.iastore, 1) := by decide +kernel
theorem d_M_destroy_51 : decode prog_5_method_38_code 51 = .ok (.aload_n 0, 1) := by decide +kernel
theorem d_M_destroy_52 : decode prog_5_method_38_code 52 = .ok (.getfield 38, 3) := by decide +kernel
theorem d_M_destroy_55 : decode prog_5_method_38_code 55 = .ok (.iload_n 2, 1) := by decide +kernel
theorem d_M_destroy_56 : decode prog_5_method_38_code 56 = .ok (.iconst 0, 1) := by decide +kernel
theorem d_M_destroy_57 : decode prog_5_method_38_code 57 = .ok (.iastore, 1) := by decide +kernel
theorem d_M_destroy_58 : decode prog_5_method_38_code 58 = .ok (.iinc 2 1, 3) := by decide +kernel
theorem d_M_destroy_61 : decode prog_5_method_38_code 61 = .ok (.goto (-41), 3) := by decide +kernel
theorem d_M_destroy_64 : decode prog_5_method_38_code 64 = .ok (.aload_n 0, 1) := by decide +kernel
theorem d_M_destroy_65 : decode prog_5_method_38_code 65 = .ok (.invokevirtual 121, 3) := by decide +kernel
theorem d_M_destroy_68 : decode prog_5_method_38_code 68 = .ok (.aload_n 0, 1) := by decide +kernel
theorem d_M_destroy_69 : decode prog_5_method_38_code 69 = .ok (.invokevirtual 124, 3) := by decide +kernel
theorem d_M_destroy_72 : decode prog_5_method_38_code 72 = .ok (.ireturn, 1) := by decide +kernel
theorem d_M_clear_0 : decode prog_5_method_35_code 0 = .ok (.iconst 1, 1) := by decide +kernel
theorem d_M_clear_1 : decode prog_5_method_35_code 1 = .ok (.istore_n 1, 1) := by decide +kernel
theorem d_M_clear_2 : decode prog_5_method_35_code 2 = .ok (.iload_n 1, 1) := by decide +kernel
theorem d_M_clear_3 : decode prog_5_method_35_code 3 = .ok (.ifCond .eq 66, 3) := by decide +kernel
theorem d_M_clear_6 : decode prog_5_method_35_code 6 = .ok (.iconst 0, 1) := by decide +kernel
theorem d_M_clear_7 : decode prog_5_method_35_code 7 = .ok (.istore_n 1, 1) := by decide +kernel
theorem d_M_clear_8 : decode prog_5_method_35_code 8 = .ok (.iconst 1, 1) := by decide +kernel
theorem d_M_clear_9 : decode prog_5_method_35_code 9 = .ok (.istore_n 2, 1) := by decide +kernel
theorem d_M_clear_10 : decode prog_5_method_35_code 10 = .ok (.iload_n 2, 1) := by decide +kernel
theorem d_M_clear_11 : decode prog_5_method_35_code 11 = .ok (.bipush 40, 2) := by decide +kernel
theorem d_M_clear_13 : decode prog_5_method_35_code 13 = .ok (.if_icmp .ge 53, 3) := by decide +kernel
theorem d_M_clear_16 : decode prog_5_method_35_code 16 = .ok (.aload_n 0, 1) := by decide +kernel
theorem d_M_clear_17 : decode prog_5_method_35_code 17 = .ok (.getfield 25, 3) := by decide +kernel
theorem d_M_clear_20 : decode prog_5_method_35_code 20 = .ok (.iload_n 2, 1) := by decide +kernel
theorem d_M_clear_21 : decode prog_5_method_35_code 21 = .ok (.baload, 1) := by decide +kernel
theorem d_M_clear_22 : decode prog_5_method_35_code 22 = .ok (.ifCond .eq 38, 3) := by decide +kernel
theorem d_M_clear_25 : decode prog_5_method_35_code 25 = .ok (.aload_n 0, 1) := by decide +kernel
theorem d_M_clear_26 : decode prog_5_method_35_code 26 = .ok (.getfield 35, 3) := by decide +kernel
theorem d_M_clear_29 : decode prog_5_method_35_code 29 = .ok (.iload_n 2, 1) := by decide +kernel
theorem d_M_clear_30 : decode prog_5_method_35_code 30 = .ok (.iaload, 1) := by decide +kernel
theorem d_M_clear_31 : decode prog_5_method_35_code 31 = .ok (.iconst 2, 1) := by decide +kernel
theorem d_M_clear_32 : decode prog_5_method_35_code 32 = .ok (.if_icmp .ne 28, 3) := by decide +kernel
theorem d_M_clear_35 : decode prog_5_method_35_code 35 = .ok (.aload_n 0, 1) := by decide +kernel
theorem d_M_clear_36 : decode prog_5_method_35_code 36 = .ok (.iload_n 2, 1) := by decide +kernel
theorem d_M_clear_37 : decode prog_5_method_35_code 37 = .ok (.invokevirtual 56, 3) := by decide +kernel
theorem d_M_clear_40 : decode prog_5_method_35_code 40 = .ok (.ifCond .ne 20, 3) := by decide +kernel
theorem d_M_clear_43 : decode prog_5_method_35_code 43 = .ok (.aload_n 0, 1) := by decide +kernel
theorem d_M_clear_44 : decode prog_5_method_35_code 44 = .ok (.iload_n 2, 1) := by decide +kernel
theorem d_M_clear_45 : decode prog_5_method_35_code 45 = .ok (.invokevirtual 115, 3) := by decide +kernel
theorem d_M_clear_48 : decode prog_5_method_35_code 48 = .ok (.ifCond .ne 12, 3) := by decide +kernel
theorem d_M_clear_51 : decode prog_5_method_35_code 51 = .ok (.aload_n 0, 1) := by decide +kernel
theorem d_M_clear_52 : decode prog_5_method_35_code 52 = .ok (.getfield 25, 3) := by decide +kernel
theorem d_M_clear_55 : decode prog_5_method_35_code 55 = .ok (.iload_n 2, 1) := by decide +kernel
theorem d_M_clear_56 : decode prog_5_method_35_code 56 = .ok (.iconst 0, 1) := by decide +kernel
theorem d_M_clear_57 : decode prog_5_method_35_code 57 = .ok (.bastore, 1) := by decide +kernel
theorem d_M_clear_58 : decode prog_5_method_35_code 58 = .ok (.iconst 1, 1) := by decide +kernel
theorem d_M_clear_59 : decode prog_5_method_35_code 59 = .ok (.istore_n 1, 1) := by decide +kernel
theorem d_M_clear_60 : decode prog_5_method_35_code 60 = .ok (.iinc 2 1, 3) := by decide +kernel
theorem d_M_clear_63 : decode prog_5_method_35_code 63 = .ok (.goto (-53), 3) := by decide +kernel
theorem d_M_clear_66 : decode prog_5_method_35_code 66 = .ok (.goto (-64), 3) := by decide +kernel
theorem d_M_clear_69 : decode prog_5_method_35_code 69 = .ok (.return_, 1) := by decide +kernel
theorem d_M_isParent_0 : decode prog_5_method_34_code 0 = .ok (.iconst 0, 1) := by decide +kernel
theorem d_M_isParent_1 : decode prog_5_method_34_code 1 = .ok (.istore_n 2, 1) := by decide +kernel
theorem d_M_isParent_2 : decode prog_5_method_34_code 2 = .ok (.iconst 0, 1) := by decide +kernel
theorem d_M_isParent_3 : decode prog_5_method_34_code 3 = .ok (.istore_n 3, 1) := by decide +kernel
theorem d_M_isParent_4 : decode prog_5_method_34_code 4 = .ok (.iload_n 3, 1) := by decide +kernel
theorem d_M_isParent_5 : decode prog_5_method_34_code 5 = .ok (.bipush 40, 2) := by decide +kernel
theorem d_M_isParent_7 : decode prog_5_method_34_code 7 = .ok (.if_icmp .ge 38, 3) := by decide +kernel
theorem d_M_isParent_10 : decode prog_5_method_34_code 10 = .ok (.iload_n 2, 1) := by decide +kernel
theorem d_M_isParent_11 : decode prog_5_method_34_code 11 = .ok (.ifCond .ne 22, 3) := by decide +kernel
theorem d_M_isParent_14 : decode prog_5_method_34_code 14 = .ok (.aload_n 0, 1) := by decide +kernel
theorem d_M_isParent_15 : decode prog_5_method_34_code 15 = .ok (.getfield 25, 3) := by decide +kernel
theorem d_M_isParent_18 : decode prog_5_method_34_code 18 = .ok (.iload_n 3, 1) := by decide +kernel
theorem d_M_isParent_19 : decode prog_5_method_34_code 19 = .ok (.baload, 1) := by decide +kernel
theorem d_M_isParent_20 : decode prog_5_method_34_code 20 = .ok (.ifCond .eq 17, 3) := by decide +kernel
theorem d_M_isParent_23 : decode prog_5_method_34_code 23 = .ok (.aload_n 0, 1) := by decide +kernel
theorem d_M_isParent_24 : decode prog_5_method_34_code 24 = .ok (.getfield 29, 3) := by decide +kernel
theorem d_M_isParent_27 : decode prog_5_method_34_code 27 = .ok (.iload_n 3, 1) := by decide +kernel
theorem d_M_isParent_28 : decode prog_5_method_34_code 28 = .ok (.iaload, 1) := by decide +kernel
theorem d_M_isParent_29 : decode prog_5_method_34_code 29 = .ok (.iload_n 1, 1) := by decide +kernel
theorem d_M_isParent_30 : decode prog_5_method_34_code 30 = .ok (.if_icmp .ne 7, 3) := by decide +kernel
theorem d_M_isParent_33 : decode prog_5_method_34_code 33 = .ok (.iconst 1, 1) := by decide +kernel
theorem d_M_isParent_34 : decode prog_5_method_34_code 34 = .ok (.goto 4, 3) := by decide +kernel
theorem d_M_isParent_37 : decode prog_5_method_34_code 37 = .ok (.iconst 0, 1) := by decide +kernel
theorem d_M_isParent_38 : decode prog_5_method_34_code 38 = .ok (.istore_n 2, 1) := by decide +kernel
theorem d_M_isParent_39 : decode prog_5_method_34_code 39 = .ok (.iinc 3 1, 3) := by decide +kernel
theorem d_M_isParent_42 : decode prog_5_method_34_code 42 = .ok (.goto (-38), 3) := by decide +kernel
theorem d_M_isParent_45 : decode prog_5_method_34_code 45 = .ok (.iload_n 2, 1) := by decide +kernel
theorem d_M_isParent_46 : decode prog_5_method_34_code 46 = .ok (.ireturn, 1) := by decide +kernel
theorem d_M_toBeFreed_0 : decode prog_5_method_37_code 0 = .ok (.iconst 0, 1) := by decide +kernel
theorem d_M_toBeFreed_1 : decode prog_5_method_37_code 1 = .ok (.istore_n 1, 1) := by decide +kernel
theorem d_M_toBeFreed_2 : decode prog_5_method_37_code 2 = .ok (.iconst 0, 1) := by decide +kernel
theorem d_M_toBeFreed_3 : decode prog_5_method_37_code 3 = .ok (.istore_n 2, 1) := by decide +kernel
theorem d_M_toBeFreed_4 : decode prog_5_method_37_code 4 = .ok (.iload_n 2, 1) := by decide +kernel
theorem d_M_toBeFreed_5 : decode prog_5_method_37_code 5 = .ok (.sipush 192, 3) := by decide +kernel
theorem d_M_toBeFreed_8 : decode prog_5_method_37_code 8 = .ok (.if_icmp .ge 25, 3) := by decide +kernel
theorem d_M_toBeFreed_11 : decode prog_5_method_37_code 11 = .ok (.iload_n 1, 1) := by decide +kernel
theorem d_M_toBeFreed_12 : decode prog_5_method_37_code 12 = .ok (.aload_n 0, 1) := by decide +kernel
theorem d_M_toBeFreed_13 : decode prog_5_method_37_code 13 = .ok (.iload_n 2, 1) := by decide +kernel
theorem d_M_toBeFreed_14 : decode prog_5_method_37_code 14 = .ok (.invokevirtual 118, 3) := by decide +kernel
theorem d_M_toBeFreed_17 : decode prog_5_method_37_code 17 = .ok (.ifCond .eq 7, 3) := by decide +kernel
theorem d_M_toBeFreed_20 : decode prog_5_method_37_code 20 = .ok (.iconst 1, 1) := by decide +kernel
theorem d_M_toBeFreed_21 : decode prog_5_method_37_code 21 = .ok (.goto 4, 3) := by decide +kernel
theorem d_M_toBeFreed_24 : decode prog_5_method_37_code 24 = .ok (.iconst 0, 1) := by decide +kernel
theorem d_M_toBeFreed_25 : decode prog_5_method_37_code 25 = .ok (.iadd, 1) := by decide +kernel
theorem d_M_toBeFreed_26 : decode prog_5_method_37_code 26 = .ok (.istore_n 1, 1) := by decide +kernel
theorem d_M_toBeFreed_27 : decode prog_5_method_37_code 27 = .ok (.iinc 2 1, 3) := by decide +kernel
theorem d_M_toBeFreed_30 : decode prog_5_method_37_code 30 = .ok (.goto (-26), 3) := by decide +kernel
theorem d_M_toBeFreed_33 : decode prog_5_method_37_code 33 = .ok (.iload_n 1, 1) := by decide +kernel
theorem d_M_toBeFreed_34 : decode prog_5_method_37_code 34 = .ok (.ireturn, 1) := by decide +kernel
theorem d_M_isToBeFreed_0 : decode prog_5_method_36_code 0 = .ok (.aload_n 0, 1) := by decide +kernel
theorem d_M_isToBeFreed_1 : decode prog_5_method_36_code 1 = .ok (.getfield 7, 3) := by decide +kernel
theorem d_M_isToBeFreed_4 : decode prog_5_method_36_code 4 = .ok (.iload_n 1, 1) := by decide +kernel
theorem d_M_isToBeFreed_5 : decode prog_5_method_36_code 5 = .ok (.iaload, 1) := by decide +kernel
theorem d_M_isToBeFreed_6 : decode prog_5_method_36_code 6 = .ok (.ifCond .lt 22, 3) := by decide +kernel
theorem d_M_isToBeFreed_9 : decode prog_5_method_36_code 9 = .ok (.aload_n 0, 1) := by decide +kernel
theorem d_M_isToBeFreed_10 : decode prog_5_method_36_code 10 = .ok (.getfield 35, 3) := by decide +kernel
theorem d_M_isToBeFreed_13 : decode prog_5_method_36_code 13 = .ok (.aload_n 0, 1) := by decide +kernel
theorem d_M_isToBeFreed_14 : decode prog_5_method_36_code 14 = .ok (.getfield 7, 3) := by decide +kernel
theorem d_M_isToBeFreed_17 : decode prog_5_method_36_code 17 = .ok (.iload_n 1, 1) := by decide +kernel
theorem d_M_isToBeFreed_18 : decode prog_5_method_36_code 18 = .ok (.iaload, 1) := by decide +kernel
theorem d_M_isToBeFreed_19 : decode prog_5_method_36_code 19 = .ok (.iaload, 1) := by decide +kernel
theorem d_M_isToBeFreed_20 : decode prog_5_method_36_code 20 = .ok (.iconst 2, 1) := by decide +kernel
theorem d_M_isToBeFreed_21 : decode prog_5_method_36_code 21 = .ok (.if_icmp .ne 7, 3) := by decide +kernel
theorem d_M_isToBeFreed_24 : decode prog_5_method_36_code 24 = .ok (.iconst 1, 1) := by decide +kernel
theorem d_M_isToBeFreed_25 : decode prog_5_method_36_code 25 = .ok (.goto 4, 3) := by decide +kernel
theorem d_M_isToBeFreed_28 : decode prog_5_method_36_code 28 = .ok (.iconst 0, 1) := by decide +kernel
theorem d_M_isToBeFreed_29 : decode prog_5_method_36_code 29 = .ok (.ireturn, 1) := by decide +kernel
theorem d_M_work_0 : decode prog_5_method_39_code 0 = .ok (.aload_n 0, 1) := by decide +kernel
theorem d_M_work_1 : decode prog_5_method_39_code 1 = .ok (.iload_n 1, 1) := by decide +kernel
theorem d_M_work_2 : decode prog_5_method_39_code 2 = .ok (.iconst 0, 1) := by decide +kernel
theorem d_M_work_3 : decode prog_5_method_39_code 3 = .ok (.sipush 192, 3) := by decide +kernel
theorem d_M_work_6 : decode prog_5_method_39_code 6 = .ok (.invokestatic 48, 3) := by decide +kernel
theorem d_M_work_9 : decode prog_5_method_39_code 9 = .ok (.ifCond .eq 7, 3) := by decide +kernel
theorem d_M_work_12 : decode prog_5_method_39_code 12 = .ok (.iconst 0, 1) := by decide +kernel
theorem d_M_work_13 : decode prog_5_method_39_code 13 = .ok (.goto 4, 3) := by decide +kernel
theorem d_M_work_16 : decode prog_5_method_39_code 16 = .ok (.iconst 1, 1) := by decide +kernel
theorem d_M_work_17 : decode prog_5_method_39_code 17 = .ok (.putfield 45, 3) := by decide +kernel
theorem d_M_work_20 : decode prog_5_method_39_code 20 = .ok (.aload_n 0, 1) := by decide +kernel
theorem d_M_work_21 : decode prog_5_method_39_code 21 = .ok (.getfield 45, 3) := by decide +kernel
theorem d_M_work_24 : decode prog_5_method_39_code 24 = .ok (.ifCond .le 5, 3) := by decide +kernel
theorem d_M_work_27 : decode prog_5_method_39_code 27 = .ok (.iconst 0, 1) := by decide +kernel
theorem d_M_work_28 : decode prog_5_method_39_code 28 = .ok (.ireturn, 1) := by decide +kernel
theorem d_M_work_29 : decode prog_5_method_39_code 29 = .ok (.iload_n 1, 1) := by decide +kernel
theorem d_M_work_30 : decode prog_5_method_39_code 30 = .ok (.istore_n 2, 1) := by decide +kernel
theorem d_M_work_31 : decode prog_5_method_39_code 31 = .ok (.iconst 0, 1) := by decide +kernel
theorem d_M_work_32 : decode prog_5_method_39_code 32 = .ok (.istore_n 3, 1) := by decide +kernel
theorem d_M_work_33 : decode prog_5_method_39_code 33 = .ok (.iload_n 3, 1) := by decide +kernel
theorem d_M_work_34 : decode prog_5_method_39_code 34 = .ok (.sipush 192, 3) := by decide +kernel
theorem d_M_work_37 : decode prog_5_method_39_code 37 = .ok (.if_icmp .ge 31, 3) := by decide +kernel
theorem d_M_work_40 : decode prog_5_method_39_code 40 = .ok (.iload_n 2, 1) := by decide +kernel
theorem d_M_work_41 : decode prog_5_method_39_code 41 = .ok (.ifCond .le 27, 3) := by decide +kernel
theorem d_M_work_44 : decode prog_5_method_39_code 44 = .ok (.aload_n 0, 1) := by decide +kernel
theorem d_M_work_45 : decode prog_5_method_39_code 45 = .ok (.iload_n 3, 1) := by decide +kernel
theorem d_M_work_46 : decode prog_5_method_39_code 46 = .ok (.invokevirtual 118, 3) := by decide +kernel
theorem d_M_work_49 : decode prog_5_method_39_code 49 = .ok (.ifCond .eq 13, 3) := by decide +kernel
theorem d_M_work_52 : decode prog_5_method_39_code 52 = .ok (.aload_n 0, 1) := by decide +kernel
theorem d_M_work_53 : decode prog_5_method_39_code 53 = .ok (.getfield 7, 3) := by decide +kernel
theorem d_M_work_56 : decode prog_5_method_39_code 56 = .ok (.iload_n 3, 1) := by decide +kernel
theorem d_M_work_57 : decode prog_5_method_39_code 57 = .ok (.iconst (-1), 1) := by decide +kernel
theorem d_M_work_58 : decode prog_5_method_39_code 58 = .ok (.iastore, 1) := by decide +kernel
theorem d_M_work_59 : decode prog_5_method_39_code 59 = .ok (.iinc 2 (-1), 3) := by decide +kernel
theorem d_M_work_62 : decode prog_5_method_39_code 62 = .ok (.iinc 3 1, 3) := by decide +kernel
theorem d_M_work_65 : decode prog_5_method_39_code 65 = .ok (.goto (-32), 3) := by decide +kernel
theorem d_M_work_68 : decode prog_5_method_39_code 68 = .ok (.aload_n 0, 1) := by decide +kernel
theorem d_M_work_69 : decode prog_5_method_39_code 69 = .ok (.invokevirtual 121, 3) := by decide +kernel
theorem d_M_work_72 : decode prog_5_method_39_code 72 = .ok (.aload_n 0, 1) := by decide +kernel
theorem d_M_work_73 : decode prog_5_method_39_code 73 = .ok (.invokevirtual 124, 3) := by decide +kernel
theorem d_M_work_76 : decode prog_5_method_39_code 76 = .ok (.ireturn, 1) := by decide +kernel
theorem d_M_handUp_0 : decode prog_5_method_41_code 0 = .ok (.aload_n 0, 1) := by decide +kernel
theorem d_M_handUp_1 : decode prog_5_method_41_code 1 = .ok (.aload_n 0, 1) := by decide +kernel
theorem d_M_handUp_2 : decode prog_5_method_41_code 2 = .ok (.iload_n 1, 1) := by decide +kernel
theorem d_M_handUp_3 : decode prog_5_method_41_code 3 = .ok (.invokevirtual 112, 3) := by decide +kernel
theorem d_M_handUp_6 : decode prog_5_method_41_code 6 = .ok (.putfield 45, 3) := by decide +kernel
theorem d_M_handUp_9 : decode prog_5_method_41_code 9 = .ok (.aload_n 0, 1) := by decide +kernel
theorem d_M_handUp_10 : decode prog_5_method_41_code 10 = .ok (.getfield 45, 3) := by decide +kernel
theorem d_M_handUp_13 : decode prog_5_method_41_code 13 = .ok (.ifCond .le 5, 3) := by decide +kernel
theorem d_M_handUp_16 : decode prog_5_method_41_code 16 = .ok (.iconst 0, 1) := by decide +kernel
theorem d_M_handUp_17 : decode prog_5_method_41_code 17 = .ok (.ireturn, 1) := by decide +kernel
theorem d_M_handUp_18 : decode prog_5_method_41_code 18 = .ok (.aload_n 0, 1) := by decide +kernel
theorem d_M_handUp_19 : decode prog_5_method_41_code 19 = .ok (.getfield 29, 3) := by decide +kernel
theorem d_M_handUp_22 : decode prog_5_method_41_code 22 = .ok (.iload_n 1, 1) := by decide +kernel
theorem d_M_handUp_23 : decode prog_5_method_41_code 23 = .ok (.iaload, 1) := by decide +kernel
theorem d_M_handUp_24 : decode prog_5_method_41_code 24 = .ok (.istore_n 2, 1) := by decide +kernel
theorem d_M_handUp_25 : decode prog_5_method_41_code 25 = .ok (.aload_n 0, 1) := by decide +kernel
theorem d_M_handUp_26 : decode prog_5_method_41_code 26 = .ok (.iload_n 1, 1) := by decide +kernel
theorem d_M_handUp_27 : decode prog_5_method_41_code 27 = .ok (.invokevirtual 56, 3) := by decide +kernel
theorem d_M_handUp_30 : decode prog_5_method_41_code 30 = .ok (.istore_n 3, 1) := by decide +kernel
theorem d_M_handUp_31 : decode prog_5_method_41_code 31 = .ok (.iconst 0, 1) := by decide +kernel
theorem d_M_handUp_32 : decode prog_5_method_41_code 32 = .ok (.istore 4, 2) := by decide +kernel
theorem d_M_handUp_34 : decode prog_5_method_41_code 34 = .ok (.iload 4, 2) := by decide +kernel
theorem d_M_handUp_36 : decode prog_5_method_41_code 36 = .ok (.iload_n 3, 1) := by decide +kernel
theorem d_M_handUp_37 : decode prog_5_method_41_code 37 = .ok (.if_icmp .ge 20, 3) := by decide +kernel
theorem d_M_handUp_40 : decode prog_5_method_41_code 40 = .ok (.aload_n 0, 1) := by decide +kernel
theorem d_M_handUp_41 : decode prog_5_method_41_code 41 = .ok (.aload_n 0, 1) := by decide +kernel
theorem d_M_handUp_42 : decode prog_5_method_41_code 42 = .ok (.iload_n 1, 1) := by decide +kernel
theorem d_M_handUp_43 : decode prog_5_method_41_code 43 = .ok (.iconst 0, 1) := by decide +kernel
theorem d_M_handUp_44 : decode prog_5_method_41_code 44 = .ok (.invokevirtual 128, 3) := by decide +kernel
theorem d_M_handUp_47 : decode prog_5_method_41_code 47 = .ok (.iload_n 2, 1) := by decide +kernel
theorem d_M_handUp_48 : decode prog_5_method_41_code 48 = .ok (.invokevirtual 92, 3) := by decide +kernel
theorem d_M_handUp_51 : decode prog_5_method_41_code 51 = .ok (.iinc 4 1, 3) := by decide +kernel
theorem d_M_handUp_54 : decode prog_5_method_41_code 54 = .ok (.goto (-20), 3) := by decide +kernel
theorem d_M_handUp_57 : decode prog_5_method_41_code 57 = .ok (.aload_n 0, 1) := by decide +kernel
theorem d_M_handUp_58 : decode prog_5_method_41_code 58 = .ok (.getfield 38, 3) := by decide +kernel
theorem d_M_handUp_61 : decode prog_5_method_41_code 61 = .ok (.iload_n 2, 1) := by decide +kernel
theorem d_M_handUp_62 : decode prog_5_method_41_code 62 = .ok (.dup2, 1) := by decide +kernel
theorem d_M_handUp_63 : decode prog_5_method_41_code 63 = .ok (.iaload, 1) := by decide +kernel
theorem d_M_handUp_64 : decode prog_5_method_41_code 64 = .ok (.aload_n 0, 1) := by decide +kernel
theorem d_M_handUp_65 : decode prog_5_method_41_code 65 = .ok (.getfield 38, 3) := by decide +kernel
theorem d_M_handUp_68 : decode prog_5_method_41_code 68 = .ok (.iload_n 1, 1) := by decide +kernel
theorem d_M_handUp_69 : decode prog_5_method_41_code 69 = .ok (.iaload, 1) := by decide +kernel
theorem d_M_handUp_70 : decode prog_5_method_41_code 70 = .ok (.iadd, 1) := by decide +kernel
theorem d_M_handUp_71 : decode prog_5_method_41_code 71 = .ok (.iastore, 1) := by decide +kernel
theorem d_M_handUp_72 : decode prog_5_method_41_code 72 = .ok (.iconst 0, 1) := by decide +kernel
theorem d_M_handUp_73 : decode prog_5_method_41_code 73 = .ok (.istore 4, 2) := by decide +kernel
theorem d_M_handUp_75 : decode prog_5_method_41_code 75 = .ok (.iload 4, 2) := by decide +kernel
theorem d_M_handUp_77 : decode prog_5_method_41_code 77 = .ok (.bipush 40, 2) := by decide +kernel
theorem d_M_handUp_79 : decode prog_5_method_41_code 79 = .ok (.if_icmp .ge 48, 3) := by decide +kernel
theorem d_M_handUp_82 : decode prog_5_method_41_code 82 = .ok (.aload_n 0, 1) := by decide +kernel
theorem d_M_handUp_83 : decode prog_5_method_41_code 83 = .ok (.getfield 29, 3) := by decide +kernel
theorem d_M_handUp_86 : decode prog_5_method_41_code 86 = .ok (.iload 4, 2) := by decide +kernel
theorem d_M_handUp_88 : decode prog_5_method_41_code 88 = .ok (.aload_n 0, 1) := by decide +kernel
theorem d_M_handUp_89 : decode prog_5_method_41_code 89 = .ok (.getfield 25, 3) := by decide +kernel
theorem d_M_handUp_92 : decode prog_5_method_41_code 92 = .ok (.iload 4, 2) := by decide +kernel
theorem d_M_handUp_94 : decode prog_5_method_41_code 94 = .ok (.baload, 1) := by decide +kernel
theorem d_M_handUp_95 : decode prog_5_method_41_code 95 = .ok (.ifCond .eq 18, 3) := by decide +kernel
theorem d_M_handUp_98 : decode prog_5_method_41_code 98 = .ok (.aload_n 0, 1) := by decide +kernel
theorem d_M_handUp_99 : decode prog_5_method_41_code 99 = .ok (.getfield 29, 3) := by decide +kernel
theorem d_M_handUp_102 : decode prog_5_method_41_code 102 = .ok (.iload 4, 2) := by decide +kernel
theorem d_M_handUp_104 : decode prog_5_method_41_code 104 = .ok (.iaload, 1) := by decide +kernel
theorem d_M_handUp_105 : decode prog_5_method_41_code 105 = .ok (.iload_n 1, 1) := by decide +kernel
theorem d_M_handUp_106 : decode prog_5_method_41_code 106 = .ok (.if_icmp .ne 7, 3) := by decide +kernel
theorem d_M_handUp_109 : decode prog_5_method_41_code 109 = .ok (.iload_n 2, 1) := by decide +kernel
theorem d_M_handUp_110 : decode prog_5_method_41_code 110 = .ok (.goto 10, 3) := by decide +kernel
theorem d_M_handUp_113 : decode prog_5_method_41_code 113 = .ok (.aload_n 0, 1) := by decide +kernel
theorem d_M_handUp_114 : decode prog_5_method_41_code 114 = .ok (.getfield 29, 3) := by decide +kernel
theorem d_M_handUp_117 : decode prog_5_method_41_code 117 = .ok (.iload 4, 2) := by decide +kernel
theorem d_M_handUp_119 : decode prog_5_method_41_code 119 = .ok (.iaload, 1) := by decide +kernel
theorem d_M_handUp_120 : decode prog_5_method_41_code 120 = .ok (.iastore, 1) := by decide +kernel
theorem d_M_handUp_121 : decode prog_5_method_41_code 121 = .ok (.iinc 4 1, 3) := by decide +kernel
theorem d_M_handUp_124 : decode prog_5_method_41_code 124 = .ok (.goto (-49), 3) := by decide +kernel
theorem d_M_handUp_127 : decode prog_5_method_41_code 127 = .ok (.aload_n 0, 1) := by decide +kernel
theorem d_M_handUp_128 : decode prog_5_method_41_code 128 = .ok (.getfield 25, 3) := by decide +kernel
theorem d_M_handUp_131 : decode prog_5_method_41_code 131 = .ok (.iload_n 1, 1) := by decide +kernel
theorem d_M_handUp_132 : decode prog_5_method_41_code 132 = .ok (.iconst 0, 1) := by decide +kernel
theorem d_M_handUp_133 : decode prog_5_method_41_code 133 = .ok (.bastore, 1) := by decide +kernel
theorem d_M_handUp_134 : decode prog_5_method_41_code 134 = .ok (.iload_n 3, 1) := by decide +kernel
theorem d_M_handUp_135 : decode prog_5_method_41_code 135 = .ok (.ireturn, 1) := by decide +kernel
theorem d_M_placeOfPage_0 : decode prog_5_method_40_code 0 = .ok (.iconst (-1), 1) := by decide +kernel
theorem d_M_placeOfPage_1 : decode prog_5_method_40_code 1 = .ok (.istore_n 3, 1) := by decide +kernel
theorem d_M_placeOfPage_2 : decode prog_5_method_40_code 2 = .ok (.iconst 0, 1) := by decide +kernel
theorem d_M_placeOfPage_3 : decode prog_5_method_40_code 3 = .ok (.istore 4, 2) := by decide +kernel
theorem d_M_placeOfPage_5 : decode prog_5_method_40_code 5 = .ok (.iload 4, 2) := by decide +kernel
theorem d_M_placeOfPage_7 : decode prog_5_method_40_code 7 = .ok (.sipush 192, 3) := by decide +kernel
