theorem d_B_init_0 : decode prog_1_method_1_code 0 = .ok (.aload_n 0, 1) := by decide +kernel
theorem d_B_init_1 : decode prog_1_method_1_code 1 = .ok (.invokespecial 1, 3) := by decide +kernel
theorem d_B_init_4 : decode prog_1_method_1_code 4 = .ok (.aload_n 0, 1) := by decide +kernel
theorem d_B_init_5 : decode prog_1_method_1_code 5 = .ok (.new 7, 3) := by decide +kernel
theorem d_B_init_8 : decode prog_1_method_1_code 8 = .ok (.dup, 1) := by decide +kernel
theorem d_B_init_9 : decode prog_1_method_1_code 9 = .ok (.invokespecial 9, 3) := by decide +kernel
theorem d_B_init_12 : decode prog_1_method_1_code 12 = .ok (.putfield 10, 3) := by decide +kernel
theorem d_B_init_15 : decode prog_1_method_1_code 15 = .ok (.aload_n 0, 1) := by decide +kernel
theorem d_B_init_16 : decode prog_1_method_1_code 16 = .ok (.new 16, 3) := by decide +kernel
theorem d_B_init_19 : decode prog_1_method_1_code 19 = .ok (.dup, 1) := by decide +kernel
theorem d_B_init_20 : decode prog_1_method_1_code 20 = .ok (.invokespecial 18, 3) := by decide +kernel
theorem d_B_init_23 : decode prog_1_method_1_code 23 = .ok (.putfield 19, 3) := by decide +kernel
theorem d_B_init_26 : decode prog_1_method_1_code 26 = .ok (.aload_n 0, 1) := by decide +kernel
theorem d_B_init_27 : decode prog_1_method_1_code 27 = .ok (.iconst (-1), 1) := by decide +kernel
theorem d_B_init_28 : decode prog_1_method_1_code 28 = .ok (.putfield 23, 3) := by decide +kernel
theorem d_B_init_31 : decode prog_1_method_1_code 31 = .ok (.return_, 1) := by decide +kernel
theorem d_B_isAlive_0 : decode prog_1_method_21_code 0 = .ok (.iload_n 1, 1) := by decide +kernel
theorem d_B_isAlive_1 : decode prog_1_method_21_code 1 = .ok (.invokestatic 67, 3) := by decide +kernel
theorem d_B_isAlive_4 : decode prog_1_method_21_code 4 = .ok (.istore_n 2, 1) := by decide +kernel
theorem d_B_isAlive_5 : decode prog_1_method_21_code 5 = .ok (.aload_n 0, 1) := by decide +kernel
theorem d_B_isAlive_6 : decode prog_1_method_21_code 6 = .ok (.getfield 19, 3) := by decide +kernel
theorem d_B_isAlive_9 : decode prog_1_method_21_code 9 = .ok (.iload_n 2, 1) := by decide +kernel
theorem d_B_isAlive_10 : decode prog_1_method_21_code 10 = .ok (.iload_n 1, 1) := by decide +kernel
theorem d_B_isAlive_11 : decode prog_1_method_21_code 11 = .ok (.invokestatic 175, 3) := by decide +kernel
theorem d_B_isAlive_14 : decode prog_1_method_21_code 14 = .ok (.invokevirtual 178, 3) := by decide +kernel
theorem d_B_isAlive_17 : decode prog_1_method_21_code 17 = .ok (.ifCond .eq 25, 3) := by decide +kernel
theorem d_B_isAlive_20 : decode prog_1_method_21_code 20 = .ok (.aload_n 0, 1) := by decide +kernel
theorem d_B_isAlive_21 : decode prog_1_method_21_code 21 = .ok (.getfield 10, 3) := by decide +kernel
theorem d_B_isAlive_24 : decode prog_1_method_21_code 24 = .ok (.aload_n 0, 1) := by decide +kernel
theorem d_B_isAlive_25 : decode prog_1_method_21_code 25 = .ok (.getfield 19, 3) := by decide +kernel
theorem d_B_isAlive_28 : decode prog_1_method_21_code 28 = .ok (.iload_n 2, 1) := by decide +kernel
theorem d_B_isAlive_29 : decode prog_1_method_21_code 29 = .ok (.invokevirtual 74, 3) := by decide +kernel
theorem d_B_isAlive_32 : decode prog_1_method_21_code 32 = .ok (.invokevirtual 77, 3) := by decide +kernel
theorem d_B_isAlive_35 : decode prog_1_method_21_code 35 = .ok (.ifCond .ne 7, 3) := by decide +kernel
theorem d_B_isAlive_38 : decode prog_1_method_21_code 38 = .ok (.iconst 1, 1) := by decide +kernel
theorem d_B_isAlive_39 : decode prog_1_method_21_code 39 = .ok (.goto 4, 3) := by decide +kernel
theorem d_B_isAlive_42 : decode prog_1_method_21_code 42 = .ok (.iconst 0, 1) := by decide +kernel
theorem d_B_isAlive_43 : decode prog_1_method_21_code 43 = .ok (.ireturn, 1) := by decide +kernel
theorem d_B_placeOf_0 : decode prog_1_method_41_code 0 = .ok (.iload_n 0, 1) := by decide +kernel
theorem d_B_placeOf_1 : decode prog_1_method_41_code 1 = .ok (.sipush 1024, 3) := by decide +kernel
theorem d_B_placeOf_4 : decode prog_1_method_41_code 4 = .ok (.invokestatic 234, 3) := by decide +kernel
theorem d_B_placeOf_7 : decode prog_1_method_41_code 7 = .ok (.iconst 2, 1) := by decide +kernel
theorem d_B_placeOf_8 : decode prog_1_method_41_code 8 = .ok (.idiv, 1) := by decide +kernel
theorem d_B_placeOf_9 : decode prog_1_method_41_code 9 = .ok (.ireturn, 1) := by decide +kernel
theorem d_B_versionOf_0 : decode prog_1_method_42_code 0 = .ok (.iload_n 0, 1) := by decide +kernel
theorem d_B_versionOf_1 : decode prog_1_method_42_code 1 = .ok (.sipush 1024, 3) := by decide +kernel
theorem d_B_versionOf_4 : decode prog_1_method_42_code 4 = .ok (.invokestatic 237, 3) := by decide +kernel
theorem d_B_versionOf_7 : decode prog_1_method_42_code 7 = .ok (.ireturn, 1) := by decide +kernel
theorem d_B_refused_0 : decode prog_1_method_22_code 0 = .ok (.aload_n 0, 1) := by decide +kernel
theorem d_B_refused_1 : decode prog_1_method_22_code 1 = .ok (.getfield 23, 3) := by decide +kernel
theorem d_B_refused_4 : decode prog_1_method_22_code 4 = .ok (.ireturn, 1) := by decide +kernel
theorem d_B_count_0 : decode prog_1_method_23_code 0 = .ok (.iload_n 1, 1) := by decide +kernel
theorem d_B_count_1 : decode prog_1_method_23_code 1 = .ok (.tableswitch 64 0 3 #[31, 39, 47, 55], 31) := by decide +kernel
theorem d_B_count_32 : decode prog_1_method_23_code 32 = .ok (.aload_n 0, 1) := by decide +kernel
theorem d_B_count_33 : decode prog_1_method_23_code 33 = .ok (.getfield 19, 3) := by decide +kernel
theorem d_B_count_36 : decode prog_1_method_23_code 36 = .ok (.invokevirtual 181, 3) := by decide +kernel
theorem d_B_count_39 : decode prog_1_method_23_code 39 = .ok (.ireturn, 1) := by decide +kernel
theorem d_B_count_40 : decode prog_1_method_23_code 40 = .ok (.aload_n 0, 1) := by decide +kernel
theorem d_B_count_41 : decode prog_1_method_23_code 41 = .ok (.getfield 19, 3) := by decide +kernel
theorem d_B_count_44 : decode prog_1_method_23_code 44 = .ok (.invokevirtual 184, 3) := by decide +kernel
theorem d_B_count_47 : decode prog_1_method_23_code 47 = .ok (.ireturn, 1) := by decide +kernel
theorem d_B_count_48 : decode prog_1_method_23_code 48 = .ok (.aload_n 0, 1) := by decide +kernel
theorem d_B_count_49 : decode prog_1_method_23_code 49 = .ok (.getfield 19, 3) := by decide +kernel
theorem d_B_count_52 : decode prog_1_method_23_code 52 = .ok (.invokevirtual 187, 3) := by decide +kernel
theorem d_B_count_55 : decode prog_1_method_23_code 55 = .ok (.ireturn, 1) := by decide +kernel
theorem d_B_count_56 : decode prog_1_method_23_code 56 = .ok (.aload_n 0, 1) := by decide +kernel
theorem d_B_count_57 : decode prog_1_method_23_code 57 = .ok (.getfield 10, 3) := by decide +kernel
theorem d_B_count_60 : decode prog_1_method_23_code 60 = .ok (.iconst 0, 1) := by decide +kernel
theorem d_B_count_61 : decode prog_1_method_23_code 61 = .ok (.invokevirtual 166, 3) := by decide +kernel
theorem d_B_count_64 : decode prog_1_method_23_code 64 = .ok (.ireturn, 1) := by decide +kernel
theorem d_B_count_65 : decode prog_1_method_23_code 65 = .ok (.iconst (-1), 1) := by decide +kernel
theorem d_B_count_66 : decode prog_1_method_23_code 66 = .ok (.ireturn, 1) := by decide +kernel
theorem d_B_astray_0 : decode prog_1_method_24_code 0 = .ok (.iconst 0, 1) := by decide +kernel
theorem d_B_astray_1 : decode prog_1_method_24_code 1 = .ok (.istore_n 1, 1) := by decide +kernel
theorem d_B_astray_2 : decode prog_1_method_24_code 2 = .ok (.iconst 0, 1) := by decide +kernel
theorem d_B_astray_3 : decode prog_1_method_24_code 3 = .ok (.istore_n 2, 1) := by decide +kernel
theorem d_B_astray_4 : decode prog_1_method_24_code 4 = .ok (.iload_n 2, 1) := by decide +kernel
theorem d_B_astray_5 : decode prog_1_method_24_code 5 = .ok (.bipush 40, 2) := by decide +kernel
theorem d_B_astray_7 : decode prog_1_method_24_code 7 = .ok (.if_icmp .ge 42, 3) := by decide +kernel
theorem d_B_astray_10 : decode prog_1_method_24_code 10 = .ok (.aload_n 0, 1) := by decide +kernel
theorem d_B_astray_11 : decode prog_1_method_24_code 11 = .ok (.getfield 10, 3) := by decide +kernel
theorem d_B_astray_14 : decode prog_1_method_24_code 14 = .ok (.iload_n 2, 1) := by decide +kernel
theorem d_B_astray_15 : decode prog_1_method_24_code 15 = .ok (.invokevirtual 190, 3) := by decide +kernel
theorem d_B_astray_18 : decode prog_1_method_24_code 18 = .ok (.ifCond .eq 25, 3) := by decide +kernel
theorem d_B_astray_21 : decode prog_1_method_24_code 21 = .ok (.aload_n 0, 1) := by decide +kernel
theorem d_B_astray_22 : decode prog_1_method_24_code 22 = .ok (.getfield 10, 3) := by decide +kernel
theorem d_B_astray_25 : decode prog_1_method_24_code 25 = .ok (.iload_n 2, 1) := by decide +kernel
theorem d_B_astray_26 : decode prog_1_method_24_code 26 = .ok (.aload_n 0, 1) := by decide +kernel
theorem d_B_astray_27 : decode prog_1_method_24_code 27 = .ok (.getfield 19, 3) := by decide +kernel
theorem d_B_astray_30 : decode prog_1_method_24_code 30 = .ok (.iload_n 2, 1) := by decide +kernel
theorem d_B_astray_31 : decode prog_1_method_24_code 31 = .ok (.invokevirtual 148, 3) := by decide +kernel
theorem d_B_astray_34 : decode prog_1_method_24_code 34 = .ok (.invokevirtual 193, 3) := by decide +kernel
theorem d_B_astray_37 : decode prog_1_method_24_code 37 = .ok (.ifCond .eq 6, 3) := by decide +kernel
theorem d_B_astray_40 : decode prog_1_method_24_code 40 = .ok (.iinc 1 1, 3) := by decide +kernel
theorem d_B_astray_43 : decode prog_1_method_24_code 43 = .ok (.iinc 2 1, 3) := by decide +kernel
theorem d_B_astray_46 : decode prog_1_method_24_code 46 = .ok (.goto (-42), 3) := by decide +kernel
theorem d_B_astray_49 : decode prog_1_method_24_code 49 = .ok (.aload_n 0, 1) := by decide +kernel
theorem d_B_astray_50 : decode prog_1_method_24_code 50 = .ok (.getfield 19, 3) := by decide +kernel
theorem d_B_astray_53 : decode prog_1_method_24_code 53 = .ok (.invokevirtual 196, 3) := by decide +kernel
theorem d_B_astray_56 : decode prog_1_method_24_code 56 = .ok (.iconst 0, 1) := by decide +kernel
theorem d_B_astray_57 : decode prog_1_method_24_code 57 = .ok (.istore_n 2, 1) := by decide +kernel
theorem d_B_astray_58 : decode prog_1_method_24_code 58 = .ok (.iload_n 2, 1) := by decide +kernel
theorem d_B_astray_59 : decode prog_1_method_24_code 59 = .ok (.sipush 192, 3) := by decide +kernel
theorem d_B_astray_62 : decode prog_1_method_24_code 62 = .ok (.if_icmp .ge 31, 3) := by decide +kernel
theorem d_B_astray_65 : decode prog_1_method_24_code 65 = .ok (.aload_n 0, 1) := by decide +kernel
theorem d_B_astray_66 : decode prog_1_method_24_code 66 = .ok (.getfield 19, 3) := by decide +kernel
theorem d_B_astray_69 : decode prog_1_method_24_code 69 = .ok (.iload_n 2, 1) := by decide +kernel
theorem d_B_astray_70 : decode prog_1_method_24_code 70 = .ok (.invokevirtual 199, 3) := by decide +kernel
theorem d_B_astray_73 : decode prog_1_method_24_code 73 = .ok (.ifCond .ne 11, 3) := by decide +kernel
theorem d_B_astray_76 : decode prog_1_method_24_code 76 = .ok (.aload_n 0, 1) := by decide +kernel
theorem d_B_astray_77 : decode prog_1_method_24_code 77 = .ok (.iload_n 2, 1) := by decide +kernel
theorem d_B_astray_78 : decode prog_1_method_24_code 78 = .ok (.invokevirtual 202, 3) := by decide +kernel
theorem d_B_astray_81 : decode prog_1_method_24_code 81 = .ok (.ifCond .eq 6, 3) := by decide +kernel
theorem d_B_astray_84 : decode prog_1_method_24_code 84 = .ok (.iinc 1 1, 3) := by decide +kernel
theorem d_B_astray_87 : decode prog_1_method_24_code 87 = .ok (.iinc 2 1, 3) := by decide +kernel
theorem d_B_astray_90 : decode prog_1_method_24_code 90 = .ok (.goto (-32), 3) := by decide +kernel
theorem d_B_astray_93 : decode prog_1_method_24_code 93 = .ok (.iload_n 1, 1) := by decide +kernel
theorem d_B_astray_94 : decode prog_1_method_24_code 94 = .ok (.ireturn, 1) := by decide +kernel
theorem d_B_isWithoutBank_0 : decode prog_1_method_25_code 0 = .ok (.aload_n 0, 1) := by decide +kernel
theorem d_B_isWithoutBank_1 : decode prog_1_method_25_code 1 = .ok (.getfield 19, 3) := by decide +kernel
theorem d_B_isWithoutBank_4 : decode prog_1_method_25_code 4 = .ok (.iload_n 1, 1) := by decide +kernel
theorem d_B_isWithoutBank_5 : decode prog_1_method_25_code 5 = .ok (.invokevirtual 205, 3) := by decide +kernel
theorem d_B_isWithoutBank_8 : decode prog_1_method_25_code 8 = .ok (.ifCond .eq 25, 3) := by decide +kernel
theorem d_B_isWithoutBank_11 : decode prog_1_method_25_code 11 = .ok (.aload_n 0, 1) := by decide +kernel
theorem d_B_isWithoutBank_12 : decode prog_1_method_25_code 12 = .ok (.getfield 10, 3) := by decide +kernel
theorem d_B_isWithoutBank_15 : decode prog_1_method_25_code 15 = .ok (.aload_n 0, 1) := by decide +kernel
theorem d_B_isWithoutBank_16 : decode prog_1_method_25_code 16 = .ok (.getfield 19, 3) := by decide +kernel
theorem d_B_isWithoutBank_19 : decode prog_1_method_25_code 19 = .ok (.iload_n 1, 1) := by decide +kernel
theorem d_B_isWithoutBank_20 : decode prog_1_method_25_code 20 = .ok (.invokevirtual 74, 3) := by decide +kernel
theorem d_B_isWithoutBank_23 : decode prog_1_method_25_code 23 = .ok (.invokevirtual 190, 3) := by decide +kernel
theorem d_B_isWithoutBank_26 : decode prog_1_method_25_code 26 = .ok (.ifCond .ne 7, 3) := by decide +kernel
theorem d_B_isWithoutBank_29 : decode prog_1_method_25_code 29 = .ok (.iconst 1, 1) := by decide +kernel
theorem d_B_isWithoutBank_30 : decode prog_1_method_25_code 30 = .ok (.goto 4, 3) := by decide +kernel
theorem d_B_isWithoutBank_33 : decode prog_1_method_25_code 33 = .ok (.iconst 0, 1) := by decide +kernel
theorem d_B_isWithoutBank_34 : decode prog_1_method_25_code 34 = .ok (.ireturn, 1) := by decide +kernel
theorem d_B_bank_0 : decode prog_1_method_2_code 0 = .ok (.aload_n 0, 1) := by decide +kernel
theorem d_B_bank_1 : decode prog_1_method_2_code 1 = .ok (.iload_n 1, 1) := by decide +kernel
theorem d_B_bank_2 : decode prog_1_method_2_code 2 = .ok (.invokevirtual 27, 3) := by decide +kernel
theorem d_B_bank_5 : decode prog_1_method_2_code 5 = .ok (.iload_n 2, 1) := by decide +kernel
theorem d_B_bank_6 : decode prog_1_method_2_code 6 = .ok (.invokestatic 31, 3) := by decide +kernel
theorem d_B_bank_9 : decode prog_1_method_2_code 9 = .ok (.invokestatic 35, 3) := by decide +kernel
theorem d_B_bank_12 : decode prog_1_method_2_code 12 = .ok (.aload_n 0, 1) := by decide +kernel
theorem d_B_bank_13 : decode prog_1_method_2_code 13 = .ok (.iload_n 1, 1) := by decide +kernel
theorem d_B_bank_14 : decode prog_1_method_2_code 14 = .ok (.invokevirtual 39, 3) := by decide +kernel
theorem d_B_bank_17 : decode prog_1_method_2_code 17 = .ok (.aload_n 0, 1) := by decide +kernel
theorem d_B_bank_18 : decode prog_1_method_2_code 18 = .ok (.getfield 10, 3) := by decide +kernel
theorem d_B_bank_21 : decode prog_1_method_2_code 21 = .ok (.invokevirtual 42, 3) := by decide +kernel
theorem d_B_bank_24 : decode prog_1_method_2_code 24 = .ok (.istore_n 3, 1) := by decide +kernel
theorem d_B_bank_25 : decode prog_1_method_2_code 25 = .ok (.iload_n 3, 1) := by decide +kernel
theorem d_B_bank_26 : decode prog_1_method_2_code 26 = .ok (.iconst (-1), 1) := by decide +kernel
theorem d_B_bank_27 : decode prog_1_method_2_code 27 = .ok (.if_icmp .eq 16, 3) := by decide +kernel
theorem d_B_bank_30 : decode prog_1_method_2_code 30 = .ok (.aload_n 0, 1) := by decide +kernel
theorem d_B_bank_31 : decode prog_1_method_2_code 31 = .ok (.getfield 10, 3) := by decide +kernel
theorem d_B_bank_34 : decode prog_1_method_2_code 34 = .ok (.iload_n 1, 1) := by decide +kernel
theorem d_B_bank_35 : decode prog_1_method_2_code 35 = .ok (.invokevirtual 46, 3) := by decide +kernel
theorem d_B_bank_38 : decode prog_1_method_2_code 38 = .ok (.bipush 6, 2) := by decide +kernel
theorem d_B_bank_40 : decode prog_1_method_2_code 40 = .ok (.if_icmp .lt 8, 3) := by decide +kernel
theorem d_B_bank_43 : decode prog_1_method_2_code 43 = .ok (.aload_n 0, 1) := by decide +kernel
theorem d_B_bank_44 : decode prog_1_method_2_code 44 = .ok (.iconst (-1), 1) := by decide +kernel
theorem d_B_bank_45 : decode prog_1_method_2_code 45 = .ok (.invokevirtual 50, 3) := by decide +kernel
theorem d_B_bank_48 : decode prog_1_method_2_code 48 = .ok (.aload_n 0, 1) := by decide +kernel
theorem d_B_bank_49 : decode prog_1_method_2_code 49 = .ok (.getfield 10, 3) := by decide +kernel
theorem d_B_bank_52 : decode prog_1_method_2_code 52 = .ok (.iload_n 3, 1) := by decide +kernel
theorem d_B_bank_53 : decode prog_1_method_2_code 53 = .ok (.iload_n 1, 1) := by decide +kernel
theorem d_B_bank_54 : decode prog_1_method_2_code 54 = .ok (.iload_n 2, 1) := by decide +kernel
theorem d_B_bank_55 : decode prog_1_method_2_code 55 = .ok (.invokevirtual 53, 3) := by decide +kernel
theorem d_B_bank_58 : decode prog_1_method_2_code 58 = .ok (.iload_n 3, 1) := by decide +kernel
theorem d_B_bank_59 : decode prog_1_method_2_code 59 = .ok (.ireturn, 1) := by decide +kernel
theorem d_B_requireBank_0 : decode prog_1_method_31_code 0 = .ok (.aload_n 0, 1) := by decide +kernel
theorem d_B_requireBank_1 : decode prog_1_method_31_code 1 = .ok (.getfield 10, 3) := by decide +kernel
theorem d_B_requireBank_4 : decode prog_1_method_31_code 4 = .ok (.iload_n 1, 1) := by decide +kernel
theorem d_B_requireBank_5 : decode prog_1_method_31_code 5 = .ok (.invokevirtual 190, 3) := by decide +kernel
theorem d_B_requireBank_8 : decode prog_1_method_31_code 8 = .ok (.invokestatic 96, 3) := by decide +kernel
theorem d_B_requireBank_11 : decode prog_1_method_31_code 11 = .ok (.return_, 1) := by decide +kernel
theorem d_B_requireIndex_0 : decode prog_1_method_35_code 0 = .ok (.iload_n 0, 1) := by decide +kernel
theorem d_B_requireIndex_1 : decode prog_1_method_35_code 1 = .ok (.ifCond .ne 11, 3) := by decide +kernel
theorem d_B_requireIndex_4 : decode prog_1_method_35_code 4 = .ok (.new 228, 3) := by decide +kernel
theorem d_B_requireIndex_7 : decode prog_1_method_35_code 7 = .ok (.dup, 1) := by decide +kernel
theorem d_B_requireIndex_8 : decode prog_1_method_35_code 8 = .ok (.invokespecial 230, 3) := by decide +kernel
theorem d_B_requireIndex_11 : decode prog_1_method_35_code 11 = .ok (.athrow, 1) := by decide +kernel
theorem d_B_requireIndex_12 : decode prog_1_method_35_code 12 = .ok (.return_, 1) := by decide +kernel
theorem d_B_isUpToAllPages_0 : decode prog_1_method_38_code 0 = .ok (.iload_n 0, 1) := by decide +kernel
theorem d_B_isUpToAllPages_1 : decode prog_1_method_38_code 1 = .ok (.ifCond .lt 14, 3) := by decide +kernel
theorem d_B_isUpToAllPages_4 : decode prog_1_method_38_code 4 = .ok (.iload_n 0, 1) := by decide +kernel
theorem d_B_isUpToAllPages_5 : decode prog_1_method_38_code 5 = .ok (.sipush 192, 3) := by decide +kernel
theorem d_B_isUpToAllPages_8 : decode prog_1_method_38_code 8 = .ok (.if_icmp .gt 7, 3) := by decide +kernel
theorem d_B_isUpToAllPages_11 : decode prog_1_method_38_code 11 = .ok (.iconst 1, 1) := by decide +kernel
theorem d_B_isUpToAllPages_12 : decode prog_1_method_38_code 12 = .ok (.goto 4, 3) := by decide +kernel
theorem d_B_isUpToAllPages_15 : decode prog_1_method_38_code 15 = .ok (.iconst 0, 1) := by decide +kernel
theorem d_B_isUpToAllPages_16 : decode prog_1_method_38_code 16 = .ok (.ireturn, 1) := by decide +kernel
theorem d_B_requireArgument_0 : decode prog_1_method_36_code 0 = .ok (.iload_n 0, 1) := by decide +kernel
theorem d_B_requireArgument_1 : decode prog_1_method_36_code 1 = .ok (.ifCond .ne 11, 3) := by decide +kernel
theorem d_B_requireArgument_4 : decode prog_1_method_36_code 4 = .ok (.new 169, 3) := by decide +kernel
theorem d_B_requireArgument_7 : decode prog_1_method_36_code 7 = .ok (.dup, 1) := by decide +kernel
theorem d_B_requireArgument_8 : decode prog_1_method_36_code 8 = .ok (.invokespecial 171, 3) := by decide +kernel
theorem d_B_requireArgument_11 : decode prog_1_method_36_code 11 = .ok (.athrow, 1) := by decide +kernel
theorem d_B_requireArgument_12 : decode prog_1_method_36_code 12 = .ok (.return_, 1) := by decide +kernel
theorem d_B_requireLive_0 : decode prog_1_method_33_code 0 = .ok (.aload_n 0, 1) := by decide +kernel
theorem d_B_requireLive_1 : decode prog_1_method_33_code 1 = .ok (.getfield 10, 3) := by decide +kernel
theorem d_B_requireLive_4 : decode prog_1_method_33_code 4 = .ok (.iload_n 1, 1) := by decide +kernel
theorem d_B_requireLive_5 : decode prog_1_method_33_code 5 = .ok (.invokevirtual 163, 3) := by decide +kernel
theorem d_B_requireLive_8 : decode prog_1_method_33_code 8 = .ok (.ifCond .ne 7, 3) := by decide +kernel
theorem d_B_requireLive_11 : decode prog_1_method_33_code 11 = .ok (.iconst 1, 1) := by decide +kernel
theorem d_B_requireLive_12 : decode prog_1_method_33_code 12 = .ok (.goto 4, 3) := by decide +kernel
theorem d_B_requireLive_15 : decode prog_1_method_33_code 15 = .ok (.iconst 0, 1) := by decide +kernel
theorem d_B_requireLive_16 : decode prog_1_method_33_code 16 = .ok (.invokestatic 115, 3) := by decide +kernel
theorem d_B_requireLive_19 : decode prog_1_method_33_code 19 = .ok (.return_, 1) := by decide +kernel
theorem d_B_requireState_0 : decode prog_1_method_37_code 0 = .ok (.iload_n 0, 1) := by decide +kernel
theorem d_B_requireState_1 : decode prog_1_method_37_code 1 = .ok (.ifCond .ne 11, 3) := by decide +kernel
theorem d_B_requireState_4 : decode prog_1_method_37_code 4 = .ok (.new 231, 3) := by decide +kernel
theorem d_B_requireState_7 : decode prog_1_method_37_code 7 = .ok (.dup, 1) := by decide +kernel
theorem d_B_requireState_8 : decode prog_1_method_37_code 8 = .ok (.invokespecial 233, 3) := by decide +kernel
theorem d_B_requireState_11 : decode prog_1_method_37_code 11 = .ok (.athrow, 1) := by decide +kernel
theorem d_B_requireState_12 : decode prog_1_method_37_code 12 = .ok (.return_, 1) := by decide +kernel
theorem d_B_refuse_0 : decode prog_1_method_30_code 0 = .ok (.aload_n 0, 1) := by decide +kernel
theorem d_B_refuse_1 : decode prog_1_method_30_code 1 = .ok (.iload_n 1, 1) := by decide +kernel
theorem d_B_refuse_2 : decode prog_1_method_30_code 2 = .ok (.putfield 23, 3) := by decide +kernel
theorem d_B_refuse_5 : decode prog_1_method_30_code 5 = .ok (.new 219, 3) := by decide +kernel
theorem d_B_refuse_8 : decode prog_1_method_30_code 8 = .ok (.dup, 1) := by decide +kernel
theorem d_B_refuse_9 : decode prog_1_method_30_code 9 = .ok (.invokespecial 221, 3) := by decide +kernel
theorem d_B_refuse_12 : decode prog_1_method_30_code 12 = .ok (.athrow, 1) := by decide +kernel
theorem d_B_buy_0 : decode prog_1_method_3_code 0 = .ok (.aload_n 0, 1) := by decide +kernel
theorem d_B_buy_1 : decode prog_1_method_3_code 1 = .ok (.iload_n 1, 1) := by decide +kernel
theorem d_B_buy_2 : decode prog_1_method_3_code 2 = .ok (.invokevirtual 27, 3) := by decide +kernel
theorem d_B_buy_5 : decode prog_1_method_3_code 5 = .ok (.aload_n 0, 1) := by decide +kernel
theorem d_B_buy_6 : decode prog_1_method_3_code 6 = .ok (.iload_n 1, 1) := by decide +kernel
theorem d_B_buy_7 : decode prog_1_method_3_code 7 = .ok (.invokevirtual 39, 3) := by decide +kernel
theorem d_B_buy_10 : decode prog_1_method_3_code 10 = .ok (.aload_n 0, 1) := by decide +kernel
theorem d_B_buy_11 : decode prog_1_method_3_code 11 = .ok (.iload_n 1, 1) := by decide +kernel
theorem d_B_buy_12 : decode prog_1_method_3_code 12 = .ok (.iconst 1, 1) := by decide +kernel
theorem d_B_buy_13 : decode prog_1_method_3_code 13 = .ok (.invokevirtual 57, 3) := by decide +kernel
theorem d_B_buy_16 : decode prog_1_method_3_code 16 = .ok (.ireturn, 1) := by decide +kernel
theorem d_B_buyNeighbours_0 : decode prog_1_method_26_code 0 = .ok (.iload_n 2, 1) := by decide +kernel
theorem d_B_buyNeighbours_1 : decode prog_1_method_26_code 1 = .ok (.aload_n 0, 1) := by decide +kernel
theorem d_B_buyNeighbours_2 : decode prog_1_method_26_code 2 = .ok (.getfield 10, 3) := by decide +kernel
theorem d_B_buyNeighbours_5 : decode prog_1_method_26_code 5 = .ok (.iload_n 1, 1) := by decide +kernel
theorem d_B_buyNeighbours_6 : decode prog_1_method_26_code 6 = .ok (.invokevirtual 127, 3) := by decide +kernel
theorem d_B_buyNeighbours_9 : decode prog_1_method_26_code 9 = .ok (.invokestatic 208, 3) := by decide +kernel
theorem d_B_buyNeighbours_12 : decode prog_1_method_26_code 12 = .ok (.istore_n 3, 1) := by decide +kernel
theorem d_B_buyNeighbours_13 : decode prog_1_method_26_code 13 = .ok (.aload_n 0, 1) := by decide +kernel
theorem d_B_buyNeighbours_14 : decode prog_1_method_26_code 14 = .ok (.iload_n 1, 1) := by decide +kernel
theorem d_B_buyNeighbours_15 : decode prog_1_method_26_code 15 = .ok (.iload_n 2, 1) := by decide +kernel
theorem d_B_buyNeighbours_16 : decode prog_1_method_26_code 16 = .ok (.iload_n 3, 1) := by decide +kernel
theorem d_B_buyNeighbours_17 : decode prog_1_method_26_code 17 = .ok (.isub, 1) := by decide +kernel
theorem d_B_buyNeighbours_18 : decode prog_1_method_26_code 18 = .ok (.invokevirtual 121, 3) := by decide +kernel
theorem d_B_buyNeighbours_21 : decode prog_1_method_26_code 21 = .ok (.aload_n 0, 1) := by decide +kernel
theorem d_B_buyNeighbours_22 : decode prog_1_method_26_code 22 = .ok (.getfield 19, 3) := by decide +kernel
theorem d_B_buyNeighbours_25 : decode prog_1_method_26_code 25 = .ok (.iload_n 2, 1) := by decide +kernel
theorem d_B_buyNeighbours_26 : decode prog_1_method_26_code 26 = .ok (.invokevirtual 213, 3) := by decide +kernel
theorem d_B_buyNeighbours_29 : decode prog_1_method_26_code 29 = .ok (.istore 4, 2) := by decide +kernel
theorem d_B_buyNeighbours_31 : decode prog_1_method_26_code 31 = .ok (.iload 4, 2) := by decide +kernel
theorem d_B_buyNeighbours_33 : decode prog_1_method_26_code 33 = .ok (.iconst (-1), 1) := by decide +kernel
theorem d_B_buyNeighbours_34 : decode prog_1_method_26_code 34 = .ok (.if_icmp .ne 8, 3) := by decide +kernel
theorem d_B_buyNeighbours_37 : decode prog_1_method_26_code 37 = .ok (.aload_n 0, 1) := by decide +kernel
theorem d_B_buyNeighbours_38 : decode prog_1_method_26_code 38 = .ok (.iconst (-1), 1) := by decide +kernel
theorem d_B_buyNeighbours_39 : decode prog_1_method_26_code 39 = .ok (.invokevirtual 50, 3) := by decide +kernel
theorem d_B_buyNeighbours_42 : decode prog_1_method_26_code 42 = .ok (.aload_n 0, 1) := by decide +kernel
theorem d_B_buyNeighbours_43 : decode prog_1_method_26_code 43 = .ok (.getfield 10, 3) := by decide +kernel
theorem d_B_buyNeighbours_46 : decode prog_1_method_26_code 46 = .ok (.iload_n 1, 1) := by decide +kernel
theorem d_B_buyNeighbours_47 : decode prog_1_method_26_code 47 = .ok (.iload_n 3, 1) := by decide +kernel
theorem d_B_buyNeighbours_48 : decode prog_1_method_26_code 48 = .ok (.ineg, 1) := by decide +kernel
theorem d_B_buyNeighbours_49 : decode prog_1_method_26_code 49 = .ok (.invokevirtual 124, 3) := by decide +kernel
theorem d_B_buyNeighbours_52 : decode prog_1_method_26_code 52 = .ok (.aload_n 0, 1) := by decide +kernel
theorem d_B_buyNeighbours_53 : decode prog_1_method_26_code 53 = .ok (.getfield 10, 3) := by decide +kernel
theorem d_B_buyNeighbours_56 : decode prog_1_method_26_code 56 = .ok (.iload_n 1, 1) := by decide +kernel
theorem d_B_buyNeighbours_57 : decode prog_1_method_26_code 57 = .ok (.iload_n 2, 1) := by decide +kernel
theorem d_B_buyNeighbours_58 : decode prog_1_method_26_code 58 = .ok (.iload_n 3, 1) := by decide +kernel
theorem d_B_buyNeighbours_59 : decode prog_1_method_26_code 59 = .ok (.isub, 1) := by decide +kernel
theorem d_B_buyNeighbours_60 : decode prog_1_method_26_code 60 = .ok (.invokevirtual 89, 3) := by decide +kernel
theorem d_B_buyNeighbours_63 : decode prog_1_method_26_code 63 = .ok (.aload_n 0, 1) := by decide +kernel
theorem d_B_buyNeighbours_64 : decode prog_1_method_26_code 64 = .ok (.getfield 19, 3) := by decide +kernel
theorem d_B_buyNeighbours_67 : decode prog_1_method_26_code 67 = .ok (.iload 4, 2) := by decide +kernel
theorem d_B_buyNeighbours_69 : decode prog_1_method_26_code 69 = .ok (.iload_n 2, 1) := by decide +kernel
theorem d_B_buyNeighbours_70 : decode prog_1_method_26_code 70 = .ok (.iload_n 1, 1) := by decide +kernel
theorem d_B_buyNeighbours_71 : decode prog_1_method_26_code 71 = .ok (.invokevirtual 216, 3) := by decide +kernel
theorem d_B_buyNeighbours_74 : decode prog_1_method_26_code 74 = .ok (.aload_n 0, 1) := by decide +kernel
theorem d_B_buyNeighbours_75 : decode prog_1_method_26_code 75 = .ok (.getfield 19, 3) := by decide +kernel
theorem d_B_buyNeighbours_78 : decode prog_1_method_26_code 78 = .ok (.iload 4, 2) := by decide +kernel
theorem d_B_buyNeighbours_80 : decode prog_1_method_26_code 80 = .ok (.invokevirtual 80, 3) := by decide +kernel
theorem d_B_buyNeighbours_83 : decode prog_1_method_26_code 83 = .ok (.ireturn, 1) := by decide +kernel
theorem d_B_requireUse_0 : decode prog_1_method_29_code 0 = .ok (.aload_n 0, 1) := by decide +kernel
theorem d_B_requireUse_1 : decode prog_1_method_29_code 1 = .ok (.getfield 10, 3) := by decide +kernel
theorem d_B_requireUse_4 : decode prog_1_method_29_code 4 = .ok (.iload_n 1, 1) := by decide +kernel
theorem d_B_requireUse_5 : decode prog_1_method_29_code 5 = .ok (.iload_n 2, 1) := by decide +kernel
theorem d_B_requireUse_6 : decode prog_1_method_29_code 6 = .ok (.invokevirtual 106, 3) := by decide +kernel
theorem d_B_requireUse_9 : decode prog_1_method_29_code 9 = .ok (.istore_n 3, 1) := by decide +kernel
theorem d_B_requireUse_10 : decode prog_1_method_29_code 10 = .ok (.iload_n 3, 1) := by decide +kernel
theorem d_B_requireUse_11 : decode prog_1_method_29_code 11 = .ok (.iconst (-1), 1) := by decide +kernel
theorem d_B_requireUse_12 : decode prog_1_method_29_code 12 = .ok (.if_icmp .eq 8, 3) := by decide +kernel
theorem d_B_requireUse_15 : decode prog_1_method_29_code 15 = .ok (.aload_n 0, 1) := by decide +kernel
theorem d_B_requireUse_16 : decode prog_1_method_29_code 16 = .ok (.iload_n 3, 1) := by decide +kernel
theorem d_B_requireUse_17 : decode prog_1_method_29_code 17 = .ok (.invokevirtual 50, 3) := by decide +kernel
theorem d_B_requireUse_20 : decode prog_1_method_29_code 20 = .ok (.return_, 1) := by decide +kernel
theorem d_B_buyRun_0 : decode prog_1_method_4_code 0 = .ok (.aload_n 0, 1) := by decide +kernel
theorem d_B_buyRun_1 : decode prog_1_method_4_code 1 = .ok (.iload_n 1, 1) := by decide +kernel
theorem d_B_buyRun_2 : decode prog_1_method_4_code 2 = .ok (.invokevirtual 27, 3) := by decide +kernel
theorem d_B_buyRun_5 : decode prog_1_method_4_code 5 = .ok (.iload_n 2, 1) := by decide +kernel
theorem d_B_buyRun_6 : decode prog_1_method_4_code 6 = .ok (.iconst 1, 1) := by decide +kernel
theorem d_B_buyRun_7 : decode prog_1_method_4_code 7 = .ok (.if_icmp .lt 13, 3) := by decide +kernel
theorem d_B_buyRun_10 : decode prog_1_method_4_code 10 = .ok (.iload_n 2, 1) := by decide +kernel
theorem d_B_buyRun_11 : decode prog_1_method_4_code 11 = .ok (.bipush 16, 2) := by decide +kernel
theorem d_B_buyRun_13 : decode prog_1_method_4_code 13 = .ok (.if_icmp .gt 7, 3) := by decide +kernel
theorem d_B_buyRun_16 : decode prog_1_method_4_code 16 = .ok (.iconst 1, 1) := by decide +kernel
theorem d_B_buyRun_17 : decode prog_1_method_4_code 17 = .ok (.goto 4, 3) := by decide +kernel
theorem d_B_buyRun_20 : decode prog_1_method_4_code 20 = .ok (.iconst 0, 1) := by decide +kernel
theorem d_B_buyRun_21 : decode prog_1_method_4_code 21 = .ok (.invokestatic 35, 3) := by decide +kernel
theorem d_B_buyRun_24 : decode prog_1_method_4_code 24 = .ok (.aload_n 0, 1) := by decide +kernel
theorem d_B_buyRun_25 : decode prog_1_method_4_code 25 = .ok (.iload_n 1, 1) := by decide +kernel
theorem d_B_buyRun_26 : decode prog_1_method_4_code 26 = .ok (.invokevirtual 39, 3) := by decide +kernel
theorem d_B_buyRun_29 : decode prog_1_method_4_code 29 = .ok (.aload_n 0, 1) := by decide +kernel
theorem d_B_buyRun_30 : decode prog_1_method_4_code 30 = .ok (.iload_n 1, 1) := by decide +kernel
theorem d_B_buyRun_31 : decode prog_1_method_4_code 31 = .ok (.iload_n 2, 1) := by decide +kernel
theorem d_B_buyRun_32 : decode prog_1_method_4_code 32 = .ok (.invokevirtual 57, 3) := by decide +kernel
theorem d_B_buyRun_35 : decode prog_1_method_4_code 35 = .ok (.ireturn, 1) := by decide +kernel
theorem d_B_runKey_0 : decode prog_1_method_5_code 0 = .ok (.aload_n 0, 1) := by decide +kernel
theorem d_B_runKey_1 : decode prog_1_method_5_code 1 = .ok (.iload_n 1, 1) := by decide +kernel
theorem d_B_runKey_2 : decode prog_1_method_5_code 2 = .ok (.invokevirtual 61, 3) := by decide +kernel
theorem d_B_runKey_5 : decode prog_1_method_5_code 5 = .ok (.iload_n 1, 1) := by decide +kernel
theorem d_B_runKey_6 : decode prog_1_method_5_code 6 = .ok (.invokestatic 64, 3) := by decide +kernel
theorem d_B_runKey_9 : decode prog_1_method_5_code 9 = .ok (.ifCond .eq 17, 3) := by decide +kernel
theorem d_B_runKey_12 : decode prog_1_method_5_code 12 = .ok (.iload_n 2, 1) := by decide +kernel
theorem d_B_runKey_13 : decode prog_1_method_5_code 13 = .ok (.ifCond .lt 13, 3) := by decide +kernel
theorem d_B_runKey_16 : decode prog_1_method_5_code 16 = .ok (.iload_n 2, 1) := by decide +kernel
theorem d_B_runKey_17 : decode prog_1_method_5_code 17 = .ok (.bipush 16, 2) := by decide +kernel
theorem d_B_runKey_19 : decode prog_1_method_5_code 19 = .ok (.if_icmp .ge 7, 3) := by decide +kernel
theorem d_B_runKey_22 : decode prog_1_method_5_code 22 = .ok (.iconst 1, 1) := by decide +kernel
theorem d_B_runKey_23 : decode prog_1_method_5_code 23 = .ok (.goto 4, 3) := by decide +kernel
theorem d_B_runKey_26 : decode prog_1_method_5_code 26 = .ok (.iconst 0, 1) := by decide +kernel
theorem d_B_runKey_27 : decode prog_1_method_5_code 27 = .ok (.invokestatic 35, 3) := by decide +kernel
theorem d_B_runKey_30 : decode prog_1_method_5_code 30 = .ok (.iload_n 1, 1) := by decide +kernel
theorem d_B_runKey_31 : decode prog_1_method_5_code 31 = .ok (.invokestatic 67, 3) := by decide +kernel
theorem d_B_runKey_34 : decode prog_1_method_5_code 34 = .ok (.istore_n 3, 1) := by decide +kernel
theorem d_B_runKey_35 : decode prog_1_method_5_code 35 = .ok (.iload_n 3, 1) := by decide +kernel
theorem d_B_runKey_36 : decode prog_1_method_5_code 36 = .ok (.iload_n 2, 1) := by decide +kernel
theorem d_B_runKey_37 : decode prog_1_method_5_code 37 = .ok (.iadd, 1) := by decide +kernel
theorem d_B_runKey_38 : decode prog_1_method_5_code 38 = .ok (.istore 4, 2) := by decide +kernel
theorem d_B_runKey_40 : decode prog_1_method_5_code 40 = .ok (.aload_n 0, 1) := by decide +kernel
theorem d_B_runKey_41 : decode prog_1_method_5_code 41 = .ok (.getfield 19, 3) := by decide +kernel
theorem d_B_runKey_44 : decode prog_1_method_5_code 44 = .ok (.iload_n 3, 1) := by decide +kernel
theorem d_B_runKey_45 : decode prog_1_method_5_code 45 = .ok (.iload 4, 2) := by decide +kernel
theorem d_B_runKey_47 : decode prog_1_method_5_code 47 = .ok (.invokevirtual 70, 3) := by decide +kernel
theorem d_B_runKey_50 : decode prog_1_method_5_code 50 = .ok (.ifCond .eq 22, 3) := by decide +kernel
theorem d_B_runKey_53 : decode prog_1_method_5_code 53 = .ok (.aload_n 0, 1) := by decide +kernel
theorem d_B_runKey_54 : decode prog_1_method_5_code 54 = .ok (.getfield 10, 3) := by decide +kernel
theorem d_B_runKey_57 : decode prog_1_method_5_code 57 = .ok (.aload_n 0, 1) := by decide +kernel
theorem d_B_runKey_58 : decode prog_1_method_5_code 58 = .ok (.getfield 19, 3) := by decide +kernel
theorem d_B_runKey_61 : decode prog_1_method_5_code 61 = .ok (.iload 4, 2) := by decide +kernel
theorem d_B_runKey_63 : decode prog_1_method_5_code 63 = .ok (.invokevirtual 74, 3) := by decide +kernel
theorem d_B_runKey_66 : decode prog_1_method_5_code 66 = .ok (.invokevirtual 77, 3) := by decide +kernel
theorem d_B_runKey_69 : decode prog_1_method_5_code 69 = .ok (.ifCond .eq 5, 3) := by decide +kernel
theorem d_B_runKey_72 : decode prog_1_method_5_code 72 = .ok (.iconst 0, 1) := by decide +kernel
theorem d_B_runKey_73 : decode prog_1_method_5_code 73 = .ok (.ireturn, 1) := by decide +kernel
theorem d_B_runKey_74 : decode prog_1_method_5_code 74 = .ok (.aload_n 0, 1) := by decide +kernel
theorem d_B_runKey_75 : decode prog_1_method_5_code 75 = .ok (.getfield 19, 3) := by decide +kernel
theorem d_B_runKey_78 : decode prog_1_method_5_code 78 = .ok (.iload 4, 2) := by decide +kernel
theorem d_B_runKey_80 : decode prog_1_method_5_code 80 = .ok (.invokevirtual 80, 3) := by decide +kernel
theorem d_B_runKey_83 : decode prog_1_method_5_code 83 = .ok (.ireturn, 1) := by decide +kernel
theorem d_B_requireAlive_0 : decode prog_1_method_34_code 0 = .ok (.aload_n 0, 1) := by decide +kernel
theorem d_B_requireAlive_1 : decode prog_1_method_34_code 1 = .ok (.iload_n 1, 1) := by decide +kernel
theorem d_B_requireAlive_2 : decode prog_1_method_34_code 2 = .ok (.invokevirtual 222, 3) := by decide +kernel
theorem d_B_requireAlive_5 : decode prog_1_method_34_code 5 = .ok (.ifCond .ne 11, 3) := by decide +kernel
theorem d_B_requireAlive_8 : decode prog_1_method_34_code 8 = .ok (.new 225, 3) := by decide +kernel
theorem d_B_requireAlive_11 : decode prog_1_method_34_code 11 = .ok (.dup, 1) := by decide +kernel
theorem d_B_requireAlive_12 : decode prog_1_method_34_code 12 = .ok (.invokespecial 227, 3) := by decide +kernel
theorem d_B_requireAlive_15 : decode prog_1_method_34_code 15 = .ok (.athrow, 1) := by decide +kernel
theorem d_B_requireAlive_16 : decode prog_1_method_34_code 16 = .ok (.return_, 1) := by decide +kernel
theorem d_B_isStrong_0 : decode prog_1_method_40_code 0 = .ok (.iload_n 0, 1) := by decide +kernel
theorem d_B_isStrong_1 : decode prog_1_method_40_code 1 = .ok (.iconst 1, 1) := by decide +kernel
theorem d_B_isStrong_2 : decode prog_1_method_40_code 2 = .ok (.iand, 1) := by decide +kernel
theorem d_B_isStrong_3 : decode prog_1_method_40_code 3 = .ok (.ifCond .ne 7, 3) := by decide +kernel
theorem d_B_isStrong_6 : decode prog_1_method_40_code 6 = .ok (.iconst 1, 1) := by decide +kernel
theorem d_B_isStrong_7 : decode prog_1_method_40_code 7 = .ok (.goto 4, 3) := by decide +kernel
theorem d_B_isStrong_10 : decode prog_1_method_40_code 10 = .ok (.iconst 0, 1) := by decide +kernel
theorem d_B_isStrong_11 : decode prog_1_method_40_code 11 = .ok (.ireturn, 1) := by decide +kernel
theorem d_B_sell_0 : decode prog_1_method_6_code 0 = .ok (.aload_n 0, 1) := by decide +kernel
theorem d_B_sell_1 : decode prog_1_method_6_code 1 = .ok (.iload_n 1, 1) := by decide +kernel
theorem d_B_sell_2 : decode prog_1_method_6_code 2 = .ok (.invokevirtual 61, 3) := by decide +kernel
theorem d_B_sell_5 : decode prog_1_method_6_code 5 = .ok (.iload_n 1, 1) := by decide +kernel
theorem d_B_sell_6 : decode prog_1_method_6_code 6 = .ok (.invokestatic 64, 3) := by decide +kernel
theorem d_B_sell_9 : decode prog_1_method_6_code 9 = .ok (.invokestatic 35, 3) := by decide +kernel
theorem d_B_sell_12 : decode prog_1_method_6_code 12 = .ok (.iload_n 1, 1) := by decide +kernel
theorem d_B_sell_13 : decode prog_1_method_6_code 13 = .ok (.invokestatic 67, 3) := by decide +kernel
theorem d_B_sell_16 : decode prog_1_method_6_code 16 = .ok (.istore_n 2, 1) := by decide +kernel
theorem d_B_sell_17 : decode prog_1_method_6_code 17 = .ok (.aload_n 0, 1) := by decide +kernel
theorem d_B_sell_18 : decode prog_1_method_6_code 18 = .ok (.getfield 19, 3) := by decide +kernel
theorem d_B_sell_21 : decode prog_1_method_6_code 21 = .ok (.iload_n 2, 1) := by decide +kernel
theorem d_B_sell_22 : decode prog_1_method_6_code 22 = .ok (.invokevirtual 74, 3) := by decide +kernel
theorem d_B_sell_25 : decode prog_1_method_6_code 25 = .ok (.istore_n 3, 1) := by decide +kernel
theorem d_B_sell_26 : decode prog_1_method_6_code 26 = .ok (.aload_n 0, 1) := by decide +kernel
theorem d_B_sell_27 : decode prog_1_method_6_code 27 = .ok (.getfield 19, 3) := by decide +kernel
theorem d_B_sell_30 : decode prog_1_method_6_code 30 = .ok (.iload_n 2, 1) := by decide +kernel
theorem d_B_sell_31 : decode prog_1_method_6_code 31 = .ok (.invokevirtual 83, 3) := by decide +kernel
theorem d_B_sell_34 : decode prog_1_method_6_code 34 = .ok (.aload_n 0, 1) := by decide +kernel
theorem d_B_sell_35 : decode prog_1_method_6_code 35 = .ok (.getfield 19, 3) := by decide +kernel
theorem d_B_sell_38 : decode prog_1_method_6_code 38 = .ok (.invokevirtual 86, 3) := by decide +kernel
theorem d_B_sell_41 : decode prog_1_method_6_code 41 = .ok (.aload_n 0, 1) := by decide +kernel
theorem d_B_sell_42 : decode prog_1_method_6_code 42 = .ok (.getfield 10, 3) := by decide +kernel
theorem d_B_sell_45 : decode prog_1_method_6_code 45 = .ok (.iload_n 3, 1) := by decide +kernel
theorem d_B_sell_46 : decode prog_1_method_6_code 46 = .ok (.iconst (-1), 1) := by decide +kernel
theorem d_B_sell_47 : decode prog_1_method_6_code 47 = .ok (.invokevirtual 89, 3) := by decide +kernel
theorem d_B_sell_50 : decode prog_1_method_6_code 50 = .ok (.iload_n 3, 1) := by decide +kernel
theorem d_B_sell_51 : decode prog_1_method_6_code 51 = .ok (.ireturn, 1) := by decide +kernel
theorem d_B_weak_0 : decode prog_1_method_7_code 0 = .ok (.aload_n 0, 1) := by decide +kernel
theorem d_B_weak_1 : decode prog_1_method_7_code 1 = .ok (.iload_n 1, 1) := by decide +kernel
theorem d_B_weak_2 : decode prog_1_method_7_code 2 = .ok (.invokevirtual 61, 3) := by decide +kernel
theorem d_B_weak_5 : decode prog_1_method_7_code 5 = .ok (.iload_n 1, 1) := by decide +kernel
theorem d_B_weak_6 : decode prog_1_method_7_code 6 = .ok (.iconst 1, 1) := by decide +kernel
theorem d_B_weak_7 : decode prog_1_method_7_code 7 = .ok (.ior, 1) := by decide +kernel
theorem d_B_weak_8 : decode prog_1_method_7_code 8 = .ok (.ireturn, 1) := by decide +kernel
theorem d_B_read_0 : decode prog_1_method_8_code 0 = .ok (.aload_n 0, 1) := by decide +kernel
theorem d_B_read_1 : decode prog_1_method_8_code 1 = .ok (.iload_n 1, 1) := by decide +kernel
theorem d_B_read_2 : decode prog_1_method_8_code 2 = .ok (.invokevirtual 61, 3) := by decide +kernel
theorem d_B_read_5 : decode prog_1_method_8_code 5 = .ok (.iload_n 2, 1) := by decide +kernel
theorem d_B_read_6 : decode prog_1_method_8_code 6 = .ok (.invokestatic 93, 3) := by decide +kernel
theorem d_B_read_9 : decode prog_1_method_8_code 9 = .ok (.invokestatic 96, 3) := by decide +kernel
theorem d_B_read_12 : decode prog_1_method_8_code 12 = .ok (.aload_n 0, 1) := by decide +kernel
theorem d_B_read_13 : decode prog_1_method_8_code 13 = .ok (.getfield 19, 3) := by decide +kernel
theorem d_B_read_16 : decode prog_1_method_8_code 16 = .ok (.iload_n 1, 1) := by decide +kernel
theorem d_B_read_17 : decode prog_1_method_8_code 17 = .ok (.invokestatic 67, 3) := by decide +kernel
theorem d_B_read_20 : decode prog_1_method_8_code 20 = .ok (.iload_n 2, 1) := by decide +kernel
theorem d_B_read_21 : decode prog_1_method_8_code 21 = .ok (.invokevirtual 99, 3) := by decide +kernel
theorem d_B_read_24 : decode prog_1_method_8_code 24 = .ok (.ireturn, 1) := by decide +kernel
theorem d_B_isWord_0 : decode prog_1_method_39_code 0 = .ok (.iload_n 0, 1) := by decide +kernel
theorem d_B_isWord_1 : decode prog_1_method_39_code 1 = .ok (.ifCond .lt 12, 3) := by decide +kernel
theorem d_B_isWord_4 : decode prog_1_method_39_code 4 = .ok (.iload_n 0, 1) := by decide +kernel
theorem d_B_isWord_5 : decode prog_1_method_39_code 5 = .ok (.iconst 4, 1) := by decide +kernel
theorem d_B_isWord_6 : decode prog_1_method_39_code 6 = .ok (.if_icmp .ge 7, 3) := by decide +kernel
theorem d_B_isWord_9 : decode prog_1_method_39_code 9 = .ok (.iconst 1, 1) := by decide +kernel
theorem d_B_isWord_10 : decode prog_1_method_39_code 10 = .ok (.goto 4, 3) := by decide +kernel
theorem d_B_isWord_13 : decode prog_1_method_39_code 13 = .ok (.iconst 0, 1) := by decide +kernel
theorem d_B_isWord_14 : decode prog_1_method_39_code 14 = .ok (.ireturn, 1) := by decide +kernel
theorem d_B_write_0 : decode prog_1_method_9_code 0 = .ok (.aload_n 0, 1) := by decide +kernel
theorem d_B_write_1 : decode prog_1_method_9_code 1 = .ok (.iload_n 1, 1) := by decide +kernel
theorem d_B_write_2 : decode prog_1_method_9_code 2 = .ok (.invokevirtual 61, 3) := by decide +kernel
theorem d_B_write_5 : decode prog_1_method_9_code 5 = .ok (.iload_n 1, 1) := by decide +kernel
theorem d_B_write_6 : decode prog_1_method_9_code 6 = .ok (.invokestatic 64, 3) := by decide +kernel
theorem d_B_write_9 : decode prog_1_method_9_code 9 = .ok (.invokestatic 35, 3) := by decide +kernel
theorem d_B_write_12 : decode prog_1_method_9_code 12 = .ok (.iload_n 2, 1) := by decide +kernel
theorem d_B_write_13 : decode prog_1_method_9_code 13 = .ok (.invokestatic 93, 3) := by decide +kernel
theorem d_B_write_16 : decode prog_1_method_9_code 16 = .ok (.invokestatic 96, 3) := by decide +kernel
theorem d_B_write_19 : decode prog_1_method_9_code 19 = .ok (.aload_n 0, 1) := by decide +kernel
theorem d_B_write_20 : decode prog_1_method_9_code 20 = .ok (.getfield 19, 3) := by decide +kernel
theorem d_B_write_23 : decode prog_1_method_9_code 23 = .ok (.iload_n 1, 1) := by decide +kernel
theorem d_B_write_24 : decode prog_1_method_9_code 24 = .ok (.invokestatic 67, 3) := by decide +kernel
theorem d_B_write_27 : decode prog_1_method_9_code 27 = .ok (.iload_n 2, 1) := by decide +kernel
theorem d_B_write_28 : decode prog_1_method_9_code 28 = .ok (.iload_n 3, 1) := by decide +kernel
theorem d_B_write_29 : decode prog_1_method_9_code 29 = .ok (.invokevirtual 102, 3) := by decide +kernel
theorem d_B_write_32 : decode prog_1_method_9_code 32 = .ok (.ireturn, 1) := by decide +kernel
theorem d_B_move_0 : decode prog_1_method_10_code 0 = .ok (.aload_n 0, 1) := by decide +kernel
theorem d_B_move_1 : decode prog_1_method_10_code 1 = .ok (.iload_n 1, 1) := by decide +kernel
