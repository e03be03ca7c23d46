theorem d_M_owned_22 : decode prog_5_method_7_code 22 = .ok (.iconst 1, 1) := by decide +kernel
theorem d_M_owned_23 : decode prog_5_method_7_code 23 = .ok (.goto 4, 3) := by decide +kernel
theorem d_M_owned_26 : decode prog_5_method_7_code 26 = .ok (.iconst 0, 1) := by decide +kernel
theorem d_M_owned_27 : decode prog_5_method_7_code 27 = .ok (.iadd, 1) := by decide +kernel
theorem d_M_owned_28 : decode prog_5_method_7_code 28 = .ok (.istore_n 2, 1) := by decide +kernel
theorem d_M_owned_29 : decode prog_5_method_7_code 29 = .ok (.iinc 3 1, 3) := by decide +kernel
theorem d_M_owned_32 : decode prog_5_method_7_code 32 = .ok (.goto (-28), 3) := by decide +kernel
theorem d_M_owned_35 : decode prog_5_method_7_code 35 = .ok (.iload_n 2, 1) := by decide +kernel
theorem d_M_owned_36 : decode prog_5_method_7_code 36 = .ok (.ireturn, 1) := by decide +kernel
theorem d_M_room_0 : decode prog_5_method_14_code 0 = .ok (.iconst (-1), 1) := by decide +kernel
theorem d_M_room_1 : decode prog_5_method_14_code 1 = .ok (.istore_n 2, 1) := by decide +kernel
theorem d_M_room_2 : decode prog_5_method_14_code 2 = .ok (.sipush 192, 3) := by decide +kernel
theorem d_M_room_5 : decode prog_5_method_14_code 5 = .ok (.iload_n 1, 1) := by decide +kernel
theorem d_M_room_6 : decode prog_5_method_14_code 6 = .ok (.isub, 1) := by decide +kernel
theorem d_M_room_7 : decode prog_5_method_14_code 7 = .ok (.istore_n 3, 1) := by decide +kernel
theorem d_M_room_8 : decode prog_5_method_14_code 8 = .ok (.iload_n 3, 1) := by decide +kernel
theorem d_M_room_9 : decode prog_5_method_14_code 9 = .ok (.ifCond .lt 61, 3) := by decide +kernel
theorem d_M_room_12 : decode prog_5_method_14_code 12 = .ok (.iconst 1, 1) := by decide +kernel
theorem d_M_room_13 : decode prog_5_method_14_code 13 = .ok (.istore 4, 2) := by decide +kernel
theorem d_M_room_15 : decode prog_5_method_14_code 15 = .ok (.iconst 0, 1) := by decide +kernel
theorem d_M_room_16 : decode prog_5_method_14_code 16 = .ok (.istore 5, 2) := by decide +kernel
theorem d_M_room_18 : decode prog_5_method_14_code 18 = .ok (.iload 5, 2) := by decide +kernel
theorem d_M_room_20 : decode prog_5_method_14_code 20 = .ok (.iload_n 1, 1) := by decide +kernel
theorem d_M_room_21 : decode prog_5_method_14_code 21 = .ok (.if_icmp .ge 32, 3) := by decide +kernel
theorem d_M_room_24 : decode prog_5_method_14_code 24 = .ok (.iload 4, 2) := by decide +kernel
theorem d_M_room_26 : decode prog_5_method_14_code 26 = .ok (.ifCond .eq 18, 3) := by decide +kernel
theorem d_M_room_29 : decode prog_5_method_14_code 29 = .ok (.aload_n 0, 1) := by decide +kernel
theorem d_M_room_30 : decode prog_5_method_14_code 30 = .ok (.iload_n 3, 1) := by decide +kernel
theorem d_M_room_31 : decode prog_5_method_14_code 31 = .ok (.iload 5, 2) := by decide +kernel
theorem d_M_room_33 : decode prog_5_method_14_code 33 = .ok (.iadd, 1) := by decide +kernel
theorem d_M_room_34 : decode prog_5_method_14_code 34 = .ok (.invokevirtual 77, 3) := by decide +kernel
theorem d_M_room_37 : decode prog_5_method_14_code 37 = .ok (.ifCond .eq 7, 3) := by decide +kernel
theorem d_M_room_40 : decode prog_5_method_14_code 40 = .ok (.iconst 1, 1) := by decide +kernel
theorem d_M_room_41 : decode prog_5_method_14_code 41 = .ok (.goto 4, 3) := by decide +kernel
theorem d_M_room_44 : decode prog_5_method_14_code 44 = .ok (.iconst 0, 1) := by decide +kernel
theorem d_M_room_45 : decode prog_5_method_14_code 45 = .ok (.istore 4, 2) := by decide +kernel
theorem d_M_room_47 : decode prog_5_method_14_code 47 = .ok (.iinc 5 1, 3) := by decide +kernel
theorem d_M_room_50 : decode prog_5_method_14_code 50 = .ok (.goto (-32), 3) := by decide +kernel
theorem d_M_room_53 : decode prog_5_method_14_code 53 = .ok (.iload 4, 2) := by decide +kernel
theorem d_M_room_55 : decode prog_5_method_14_code 55 = .ok (.ifCond .eq 7, 3) := by decide +kernel
theorem d_M_room_58 : decode prog_5_method_14_code 58 = .ok (.iload_n 3, 1) := by decide +kernel
theorem d_M_room_59 : decode prog_5_method_14_code 59 = .ok (.goto 4, 3) := by decide +kernel
theorem d_M_room_62 : decode prog_5_method_14_code 62 = .ok (.iload_n 2, 1) := by decide +kernel
theorem d_M_room_63 : decode prog_5_method_14_code 63 = .ok (.istore_n 2, 1) := by decide +kernel
theorem d_M_room_64 : decode prog_5_method_14_code 64 = .ok (.iinc 3 (-1), 3) := by decide +kernel
theorem d_M_room_67 : decode prog_5_method_14_code 67 = .ok (.goto (-59), 3) := by decide +kernel
theorem d_M_room_70 : decode prog_5_method_14_code 70 = .ok (.iload_n 2, 1) := by decide +kernel
theorem d_M_room_71 : decode prog_5_method_14_code 71 = .ok (.ireturn, 1) := by decide +kernel
theorem d_M_isFree_0 : decode prog_5_method_13_code 0 = .ok (.aload_n 0, 1) := by decide +kernel
theorem d_M_isFree_1 : decode prog_5_method_13_code 1 = .ok (.getfield 7, 3) := by decide +kernel
theorem d_M_isFree_4 : decode prog_5_method_13_code 4 = .ok (.iload_n 1, 1) := by decide +kernel
theorem d_M_isFree_5 : decode prog_5_method_13_code 5 = .ok (.iaload, 1) := by decide +kernel
theorem d_M_isFree_6 : decode prog_5_method_13_code 6 = .ok (.ifCond .ge 18, 3) := by decide +kernel
theorem d_M_isFree_9 : decode prog_5_method_13_code 9 = .ok (.aload_n 0, 1) := by decide +kernel
theorem d_M_isFree_10 : decode prog_5_method_13_code 10 = .ok (.getfield 13, 3) := by decide +kernel
theorem d_M_isFree_13 : decode prog_5_method_13_code 13 = .ok (.iload_n 1, 1) := by decide +kernel
theorem d_M_isFree_14 : decode prog_5_method_13_code 14 = .ok (.iaload, 1) := by decide +kernel
theorem d_M_isFree_15 : decode prog_5_method_13_code 15 = .ok (.bipush 7, 2) := by decide +kernel
theorem d_M_isFree_17 : decode prog_5_method_13_code 17 = .ok (.if_icmp .ge 7, 3) := by decide +kernel
theorem d_M_isFree_20 : decode prog_5_method_13_code 20 = .ok (.iconst 1, 1) := by decide +kernel
theorem d_M_isFree_21 : decode prog_5_method_13_code 21 = .ok (.goto 4, 3) := by decide +kernel
theorem d_M_isFree_24 : decode prog_5_method_13_code 24 = .ok (.iconst 0, 1) := by decide +kernel
theorem d_M_isFree_25 : decode prog_5_method_13_code 25 = .ok (.ireturn, 1) := by decide +kernel
theorem d_M_own_0 : decode prog_5_method_16_code 0 = .ok (.aload_n 0, 1) := by decide +kernel
theorem d_M_own_1 : decode prog_5_method_16_code 1 = .ok (.getfield 7, 3) := by decide +kernel
theorem d_M_own_4 : decode prog_5_method_16_code 4 = .ok (.iload_n 1, 1) := by decide +kernel
theorem d_M_own_5 : decode prog_5_method_16_code 5 = .ok (.iload_n 2, 1) := by decide +kernel
theorem d_M_own_6 : decode prog_5_method_16_code 6 = .ok (.iastore, 1) := by decide +kernel
theorem d_M_own_7 : decode prog_5_method_16_code 7 = .ok (.aload_n 0, 1) := by decide +kernel
theorem d_M_own_8 : decode prog_5_method_16_code 8 = .ok (.getfield 19, 3) := by decide +kernel
theorem d_M_own_11 : decode prog_5_method_16_code 11 = .ok (.iload_n 1, 1) := by decide +kernel
theorem d_M_own_12 : decode prog_5_method_16_code 12 = .ok (.aload_n 0, 1) := by decide +kernel
theorem d_M_own_13 : decode prog_5_method_16_code 13 = .ok (.getfield 80, 3) := by decide +kernel
theorem d_M_own_16 : decode prog_5_method_16_code 16 = .ok (.iastore, 1) := by decide +kernel
theorem d_M_own_17 : decode prog_5_method_16_code 17 = .ok (.aload_n 0, 1) := by decide +kernel
theorem d_M_own_18 : decode prog_5_method_16_code 18 = .ok (.dup, 1) := by decide +kernel
theorem d_M_own_19 : decode prog_5_method_16_code 19 = .ok (.getfield 80, 3) := by decide +kernel
theorem d_M_own_22 : decode prog_5_method_16_code 22 = .ok (.iconst 1, 1) := by decide +kernel
theorem d_M_own_23 : decode prog_5_method_16_code 23 = .ok (.iadd, 1) := by decide +kernel
theorem d_M_own_24 : decode prog_5_method_16_code 24 = .ok (.putfield 80, 3) := by decide +kernel
theorem d_M_own_27 : decode prog_5_method_16_code 27 = .ok (.return_, 1) := by decide +kernel
theorem d_M_keyOf_0 : decode prog_5_method_15_code 0 = .ok (.sipush 1024, 3) := by decide +kernel
theorem d_M_keyOf_3 : decode prog_5_method_15_code 3 = .ok (.iload_n 0, 1) := by decide +kernel
theorem d_M_keyOf_4 : decode prog_5_method_15_code 4 = .ok (.imul, 1) := by decide +kernel
theorem d_M_keyOf_5 : decode prog_5_method_15_code 5 = .ok (.iconst 2, 1) := by decide +kernel
theorem d_M_keyOf_6 : decode prog_5_method_15_code 6 = .ok (.iload_n 1, 1) := by decide +kernel
theorem d_M_keyOf_7 : decode prog_5_method_15_code 7 = .ok (.imul, 1) := by decide +kernel
theorem d_M_keyOf_8 : decode prog_5_method_15_code 8 = .ok (.iadd, 1) := by decide +kernel
theorem d_M_keyOf_9 : decode prog_5_method_15_code 9 = .ok (.ireturn, 1) := by decide +kernel
theorem d_M_buyRun_0 : decode prog_5_method_19_code 0 = .ok (.aload_n 0, 1) := by decide +kernel
theorem d_M_buyRun_1 : decode prog_5_method_19_code 1 = .ok (.aload_n 0, 1) := by decide +kernel
theorem d_M_buyRun_2 : decode prog_5_method_19_code 2 = .ok (.iload_n 1, 1) := by decide +kernel
theorem d_M_buyRun_3 : decode prog_5_method_19_code 3 = .ok (.invokevirtual 63, 3) := by decide +kernel
theorem d_M_buyRun_6 : decode prog_5_method_19_code 6 = .ok (.ifCond .ne 7, 3) := by decide +kernel
theorem d_M_buyRun_9 : decode prog_5_method_19_code 9 = .ok (.iconst 1, 1) := by decide +kernel
theorem d_M_buyRun_10 : decode prog_5_method_19_code 10 = .ok (.goto 18, 3) := by decide +kernel
theorem d_M_buyRun_13 : decode prog_5_method_19_code 13 = .ok (.iload_n 2, 1) := by decide +kernel
theorem d_M_buyRun_14 : decode prog_5_method_19_code 14 = .ok (.iconst 1, 1) := by decide +kernel
theorem d_M_buyRun_15 : decode prog_5_method_19_code 15 = .ok (.bipush 16, 2) := by decide +kernel
theorem d_M_buyRun_17 : decode prog_5_method_19_code 17 = .ok (.invokestatic 48, 3) := by decide +kernel
theorem d_M_buyRun_20 : decode prog_5_method_19_code 20 = .ok (.ifCond .eq 7, 3) := by decide +kernel
theorem d_M_buyRun_23 : decode prog_5_method_19_code 23 = .ok (.iconst 0, 1) := by decide +kernel
theorem d_M_buyRun_24 : decode prog_5_method_19_code 24 = .ok (.goto 4, 3) := by decide +kernel
theorem d_M_buyRun_27 : decode prog_5_method_19_code 27 = .ok (.iconst 2, 1) := by decide +kernel
theorem d_M_buyRun_28 : decode prog_5_method_19_code 28 = .ok (.putfield 45, 3) := by decide +kernel
theorem d_M_buyRun_31 : decode prog_5_method_19_code 31 = .ok (.aload_n 0, 1) := by decide +kernel
theorem d_M_buyRun_32 : decode prog_5_method_19_code 32 = .ok (.getfield 45, 3) := by decide +kernel
theorem d_M_buyRun_35 : decode prog_5_method_19_code 35 = .ok (.ifCond .le 7, 3) := by decide +kernel
theorem d_M_buyRun_38 : decode prog_5_method_19_code 38 = .ok (.iconst 0, 1) := by decide +kernel
theorem d_M_buyRun_39 : decode prog_5_method_19_code 39 = .ok (.goto 10, 3) := by decide +kernel
theorem d_M_buyRun_42 : decode prog_5_method_19_code 42 = .ok (.aload_n 0, 1) := by decide +kernel
theorem d_M_buyRun_43 : decode prog_5_method_19_code 43 = .ok (.iload_n 1, 1) := by decide +kernel
theorem d_M_buyRun_44 : decode prog_5_method_19_code 44 = .ok (.iload_n 2, 1) := by decide +kernel
theorem d_M_buyRun_45 : decode prog_5_method_19_code 45 = .ok (.iconst 3, 1) := by decide +kernel
theorem d_M_buyRun_46 : decode prog_5_method_19_code 46 = .ok (.invokevirtual 99, 3) := by decide +kernel
theorem d_M_buyRun_49 : decode prog_5_method_19_code 49 = .ok (.ireturn, 1) := by decide +kernel
theorem d_M_runKey_0 : decode prog_5_method_23_code 0 = .ok (.aload_n 0, 1) := by decide +kernel
theorem d_M_runKey_1 : decode prog_5_method_23_code 1 = .ok (.aload_n 0, 1) := by decide +kernel
theorem d_M_runKey_2 : decode prog_5_method_23_code 2 = .ok (.iload_n 1, 1) := by decide +kernel
theorem d_M_runKey_3 : decode prog_5_method_23_code 3 = .ok (.invokevirtual 106, 3) := by decide +kernel
theorem d_M_runKey_6 : decode prog_5_method_23_code 6 = .ok (.ifCond .ne 7, 3) := by decide +kernel
theorem d_M_runKey_9 : decode prog_5_method_23_code 9 = .ok (.iconst 1, 1) := by decide +kernel
theorem d_M_runKey_10 : decode prog_5_method_23_code 10 = .ok (.goto 25, 3) := by decide +kernel
theorem d_M_runKey_13 : decode prog_5_method_23_code 13 = .ok (.iload_n 1, 1) := by decide +kernel
theorem d_M_runKey_14 : decode prog_5_method_23_code 14 = .ok (.invokestatic 109, 3) := by decide +kernel
theorem d_M_runKey_17 : decode prog_5_method_23_code 17 = .ok (.ifCond .ne 13, 3) := by decide +kernel
theorem d_M_runKey_20 : decode prog_5_method_23_code 20 = .ok (.iload_n 2, 1) := by decide +kernel
theorem d_M_runKey_21 : decode prog_5_method_23_code 21 = .ok (.iconst 0, 1) := by decide +kernel
theorem d_M_runKey_22 : decode prog_5_method_23_code 22 = .ok (.bipush 15, 2) := by decide +kernel
theorem d_M_runKey_24 : decode prog_5_method_23_code 24 = .ok (.invokestatic 48, 3) := by decide +kernel
theorem d_M_runKey_27 : decode prog_5_method_23_code 27 = .ok (.ifCond .ne 7, 3) := by decide +kernel
theorem d_M_runKey_30 : decode prog_5_method_23_code 30 = .ok (.iconst 2, 1) := by decide +kernel
theorem d_M_runKey_31 : decode prog_5_method_23_code 31 = .ok (.goto 4, 3) := by decide +kernel
theorem d_M_runKey_34 : decode prog_5_method_23_code 34 = .ok (.iconst 0, 1) := by decide +kernel
theorem d_M_runKey_35 : decode prog_5_method_23_code 35 = .ok (.putfield 45, 3) := by decide +kernel
theorem d_M_runKey_38 : decode prog_5_method_23_code 38 = .ok (.aload_n 0, 1) := by decide +kernel
theorem d_M_runKey_39 : decode prog_5_method_23_code 39 = .ok (.getfield 45, 3) := by decide +kernel
theorem d_M_runKey_42 : decode prog_5_method_23_code 42 = .ok (.ifCond .le 5, 3) := by decide +kernel
theorem d_M_runKey_45 : decode prog_5_method_23_code 45 = .ok (.iconst 0, 1) := by decide +kernel
theorem d_M_runKey_46 : decode prog_5_method_23_code 46 = .ok (.ireturn, 1) := by decide +kernel
theorem d_M_runKey_47 : decode prog_5_method_23_code 47 = .ok (.iload_n 1, 1) := by decide +kernel
theorem d_M_runKey_48 : decode prog_5_method_23_code 48 = .ok (.invokestatic 103, 3) := by decide +kernel
theorem d_M_runKey_51 : decode prog_5_method_23_code 51 = .ok (.iload_n 2, 1) := by decide +kernel
theorem d_M_runKey_52 : decode prog_5_method_23_code 52 = .ok (.iadd, 1) := by decide +kernel
theorem d_M_runKey_53 : decode prog_5_method_23_code 53 = .ok (.istore_n 3, 1) := by decide +kernel
theorem d_M_runKey_54 : decode prog_5_method_23_code 54 = .ok (.iload_n 3, 1) := by decide +kernel
theorem d_M_runKey_55 : decode prog_5_method_23_code 55 = .ok (.sipush 192, 3) := by decide +kernel
theorem d_M_runKey_58 : decode prog_5_method_23_code 58 = .ok (.if_icmp .ge 49, 3) := by decide +kernel
theorem d_M_runKey_61 : decode prog_5_method_23_code 61 = .ok (.aload_n 0, 1) := by decide +kernel
theorem d_M_runKey_62 : decode prog_5_method_23_code 62 = .ok (.getfield 7, 3) := by decide +kernel
theorem d_M_runKey_65 : decode prog_5_method_23_code 65 = .ok (.iload_n 3, 1) := by decide +kernel
theorem d_M_runKey_66 : decode prog_5_method_23_code 66 = .ok (.iaload, 1) := by decide +kernel
theorem d_M_runKey_67 : decode prog_5_method_23_code 67 = .ok (.ifCond .lt 40, 3) := by decide +kernel
theorem d_M_runKey_70 : decode prog_5_method_23_code 70 = .ok (.aload_n 0, 1) := by decide +kernel
theorem d_M_runKey_71 : decode prog_5_method_23_code 71 = .ok (.getfield 16, 3) := by decide +kernel
theorem d_M_runKey_74 : decode prog_5_method_23_code 74 = .ok (.iload_n 3, 1) := by decide +kernel
theorem d_M_runKey_75 : decode prog_5_method_23_code 75 = .ok (.iaload, 1) := by decide +kernel
theorem d_M_runKey_76 : decode prog_5_method_23_code 76 = .ok (.aload_n 0, 1) := by decide +kernel
theorem d_M_runKey_77 : decode prog_5_method_23_code 77 = .ok (.getfield 16, 3) := by decide +kernel
theorem d_M_runKey_80 : decode prog_5_method_23_code 80 = .ok (.iload_n 1, 1) := by decide +kernel
theorem d_M_runKey_81 : decode prog_5_method_23_code 81 = .ok (.invokestatic 103, 3) := by decide +kernel
theorem d_M_runKey_84 : decode prog_5_method_23_code 84 = .ok (.iaload, 1) := by decide +kernel
theorem d_M_runKey_85 : decode prog_5_method_23_code 85 = .ok (.if_icmp .ne 22, 3) := by decide +kernel
theorem d_M_runKey_88 : decode prog_5_method_23_code 88 = .ok (.aload_n 0, 1) := by decide +kernel
theorem d_M_runKey_89 : decode prog_5_method_23_code 89 = .ok (.getfield 35, 3) := by decide +kernel
theorem d_M_runKey_92 : decode prog_5_method_23_code 92 = .ok (.aload_n 0, 1) := by decide +kernel
theorem d_M_runKey_93 : decode prog_5_method_23_code 93 = .ok (.getfield 7, 3) := by decide +kernel
theorem d_M_runKey_96 : decode prog_5_method_23_code 96 = .ok (.iload_n 3, 1) := by decide +kernel
theorem d_M_runKey_97 : decode prog_5_method_23_code 97 = .ok (.iaload, 1) := by decide +kernel
theorem d_M_runKey_98 : decode prog_5_method_23_code 98 = .ok (.iaload, 1) := by decide +kernel
theorem d_M_runKey_99 : decode prog_5_method_23_code 99 = .ok (.iconst 2, 1) := by decide +kernel
theorem d_M_runKey_100 : decode prog_5_method_23_code 100 = .ok (.if_icmp .eq 7, 3) := by decide +kernel
theorem d_M_runKey_103 : decode prog_5_method_23_code 103 = .ok (.iconst 1, 1) := by decide +kernel
theorem d_M_runKey_104 : decode prog_5_method_23_code 104 = .ok (.goto 4, 3) := by decide +kernel
theorem d_M_runKey_107 : decode prog_5_method_23_code 107 = .ok (.iconst 0, 1) := by decide +kernel
theorem d_M_runKey_108 : decode prog_5_method_23_code 108 = .ok (.istore 4, 2) := by decide +kernel
theorem d_M_runKey_110 : decode prog_5_method_23_code 110 = .ok (.iload 4, 2) := by decide +kernel
theorem d_M_runKey_112 : decode prog_5_method_23_code 112 = .ok (.ifCond .eq 16, 3) := by decide +kernel
theorem d_M_runKey_115 : decode prog_5_method_23_code 115 = .ok (.aload_n 0, 1) := by decide +kernel
theorem d_M_runKey_116 : decode prog_5_method_23_code 116 = .ok (.getfield 13, 3) := by decide +kernel
theorem d_M_runKey_119 : decode prog_5_method_23_code 119 = .ok (.iload_n 3, 1) := by decide +kernel
theorem d_M_runKey_120 : decode prog_5_method_23_code 120 = .ok (.iaload, 1) := by decide +kernel
theorem d_M_runKey_121 : decode prog_5_method_23_code 121 = .ok (.iload_n 3, 1) := by decide +kernel
theorem d_M_runKey_122 : decode prog_5_method_23_code 122 = .ok (.invokestatic 96, 3) := by decide +kernel
theorem d_M_runKey_125 : decode prog_5_method_23_code 125 = .ok (.goto 4, 3) := by decide +kernel
theorem d_M_runKey_128 : decode prog_5_method_23_code 128 = .ok (.iconst 0, 1) := by decide +kernel
theorem d_M_runKey_129 : decode prog_5_method_23_code 129 = .ok (.ireturn, 1) := by decide +kernel
theorem d_M_lives_0 : decode prog_5_method_22_code 0 = .ok (.iload_n 1, 1) := by decide +kernel
theorem d_M_lives_1 : decode prog_5_method_22_code 1 = .ok (.invokestatic 103, 3) := by decide +kernel
theorem d_M_lives_4 : decode prog_5_method_22_code 4 = .ok (.istore_n 2, 1) := by decide +kernel
theorem d_M_lives_5 : decode prog_5_method_22_code 5 = .ok (.iload_n 1, 1) := by decide +kernel
theorem d_M_lives_6 : decode prog_5_method_22_code 6 = .ok (.ifCond .le 51, 3) := by decide +kernel
theorem d_M_lives_9 : decode prog_5_method_22_code 9 = .ok (.iload_n 2, 1) := by decide +kernel
theorem d_M_lives_10 : decode prog_5_method_22_code 10 = .ok (.sipush 192, 3) := by decide +kernel
theorem d_M_lives_13 : decode prog_5_method_22_code 13 = .ok (.if_icmp .ge 44, 3) := by decide +kernel
theorem d_M_lives_16 : decode prog_5_method_22_code 16 = .ok (.aload_n 0, 1) := by decide +kernel
theorem d_M_lives_17 : decode prog_5_method_22_code 17 = .ok (.getfield 7, 3) := by decide +kernel
theorem d_M_lives_20 : decode prog_5_method_22_code 20 = .ok (.iload_n 2, 1) := by decide +kernel
theorem d_M_lives_21 : decode prog_5_method_22_code 21 = .ok (.iaload, 1) := by decide +kernel
theorem d_M_lives_22 : decode prog_5_method_22_code 22 = .ok (.ifCond .lt 35, 3) := by decide +kernel
theorem d_M_lives_25 : decode prog_5_method_22_code 25 = .ok (.aload_n 0, 1) := by decide +kernel
theorem d_M_lives_26 : decode prog_5_method_22_code 26 = .ok (.getfield 13, 3) := by decide +kernel
theorem d_M_lives_29 : decode prog_5_method_22_code 29 = .ok (.iload_n 2, 1) := by decide +kernel
theorem d_M_lives_30 : decode prog_5_method_22_code 30 = .ok (.iaload, 1) := by decide +kernel
theorem d_M_lives_31 : decode prog_5_method_22_code 31 = .ok (.iload_n 1, 1) := by decide +kernel
theorem d_M_lives_32 : decode prog_5_method_22_code 32 = .ok (.bipush 10, 2) := by decide +kernel
theorem d_M_lives_34 : decode prog_5_method_22_code 34 = .ok (.ishr, 1) := by decide +kernel
theorem d_M_lives_35 : decode prog_5_method_22_code 35 = .ok (.if_icmp .ne 22, 3) := by decide +kernel
theorem d_M_lives_38 : decode prog_5_method_22_code 38 = .ok (.aload_n 0, 1) := by decide +kernel
theorem d_M_lives_39 : decode prog_5_method_22_code 39 = .ok (.getfield 35, 3) := by decide +kernel
theorem d_M_lives_42 : decode prog_5_method_22_code 42 = .ok (.aload_n 0, 1) := by decide +kernel
theorem d_M_lives_43 : decode prog_5_method_22_code 43 = .ok (.getfield 7, 3) := by decide +kernel
theorem d_M_lives_46 : decode prog_5_method_22_code 46 = .ok (.iload_n 2, 1) := by decide +kernel
theorem d_M_lives_47 : decode prog_5_method_22_code 47 = .ok (.iaload, 1) := by decide +kernel
theorem d_M_lives_48 : decode prog_5_method_22_code 48 = .ok (.iaload, 1) := by decide +kernel
theorem d_M_lives_49 : decode prog_5_method_22_code 49 = .ok (.iconst 2, 1) := by decide +kernel
theorem d_M_lives_50 : decode prog_5_method_22_code 50 = .ok (.if_icmp .eq 7, 3) := by decide +kernel
theorem d_M_lives_53 : decode prog_5_method_22_code 53 = .ok (.iconst 1, 1) := by decide +kernel
theorem d_M_lives_54 : decode prog_5_method_22_code 54 = .ok (.goto 4, 3) := by decide +kernel
theorem d_M_lives_57 : decode prog_5_method_22_code 57 = .ok (.iconst 0, 1) := by decide +kernel
theorem d_M_lives_58 : decode prog_5_method_22_code 58 = .ok (.ireturn, 1) := by decide +kernel
theorem d_M_placeOf_0 : decode prog_5_method_20_code 0 = .ok (.iload_n 0, 1) := by decide +kernel
theorem d_M_placeOf_1 : decode prog_5_method_20_code 1 = .ok (.iconst 1, 1) := by decide +kernel
theorem d_M_placeOf_2 : decode prog_5_method_20_code 2 = .ok (.ishr, 1) := by decide +kernel
theorem d_M_placeOf_3 : decode prog_5_method_20_code 3 = .ok (.sipush 511, 3) := by decide +kernel
theorem d_M_placeOf_6 : decode prog_5_method_20_code 6 = .ok (.iand, 1) := by decide +kernel
theorem d_M_placeOf_7 : decode prog_5_method_20_code 7 = .ok (.ireturn, 1) := by decide +kernel
theorem d_M_isWeak_0 : decode prog_5_method_21_code 0 = .ok (.iload_n 0, 1) := by decide +kernel
theorem d_M_isWeak_1 : decode prog_5_method_21_code 1 = .ok (.iconst 1, 1) := by decide +kernel
theorem d_M_isWeak_2 : decode prog_5_method_21_code 2 = .ok (.iand, 1) := by decide +kernel
theorem d_M_isWeak_3 : decode prog_5_method_21_code 3 = .ok (.iconst 1, 1) := by decide +kernel
theorem d_M_isWeak_4 : decode prog_5_method_21_code 4 = .ok (.if_icmp .ne 7, 3) := by decide +kernel
theorem d_M_isWeak_7 : decode prog_5_method_21_code 7 = .ok (.iconst 1, 1) := by decide +kernel
theorem d_M_isWeak_8 : decode prog_5_method_21_code 8 = .ok (.goto 4, 3) := by decide +kernel
theorem d_M_isWeak_11 : decode prog_5_method_21_code 11 = .ok (.iconst 0, 1) := by decide +kernel
theorem d_M_isWeak_12 : decode prog_5_method_21_code 12 = .ok (.ireturn, 1) := by decide +kernel
theorem d_M_sell_0 : decode prog_5_method_24_code 0 = .ok (.aload_n 0, 1) := by decide +kernel
theorem d_M_sell_1 : decode prog_5_method_24_code 1 = .ok (.aload_n 0, 1) := by decide +kernel
theorem d_M_sell_2 : decode prog_5_method_24_code 2 = .ok (.iload_n 1, 1) := by decide +kernel
theorem d_M_sell_3 : decode prog_5_method_24_code 3 = .ok (.invokevirtual 106, 3) := by decide +kernel
theorem d_M_sell_6 : decode prog_5_method_24_code 6 = .ok (.ifCond .ne 7, 3) := by decide +kernel
theorem d_M_sell_9 : decode prog_5_method_24_code 9 = .ok (.iconst 1, 1) := by decide +kernel
theorem d_M_sell_10 : decode prog_5_method_24_code 10 = .ok (.goto 15, 3) := by decide +kernel
theorem d_M_sell_13 : decode prog_5_method_24_code 13 = .ok (.iload_n 1, 1) := by decide +kernel
theorem d_M_sell_14 : decode prog_5_method_24_code 14 = .ok (.invokestatic 109, 3) := by decide +kernel
theorem d_M_sell_17 : decode prog_5_method_24_code 17 = .ok (.ifCond .eq 7, 3) := by decide +kernel
theorem d_M_sell_20 : decode prog_5_method_24_code 20 = .ok (.iconst 2, 1) := by decide +kernel
theorem d_M_sell_21 : decode prog_5_method_24_code 21 = .ok (.goto 4, 3) := by decide +kernel
theorem d_M_sell_24 : decode prog_5_method_24_code 24 = .ok (.iconst 0, 1) := by decide +kernel
theorem d_M_sell_25 : decode prog_5_method_24_code 25 = .ok (.putfield 45, 3) := by decide +kernel
theorem d_M_sell_28 : decode prog_5_method_24_code 28 = .ok (.aload_n 0, 1) := by decide +kernel
theorem d_M_sell_29 : decode prog_5_method_24_code 29 = .ok (.getfield 45, 3) := by decide +kernel
theorem d_M_sell_32 : decode prog_5_method_24_code 32 = .ok (.ifCond .le 5, 3) := by decide +kernel
theorem d_M_sell_35 : decode prog_5_method_24_code 35 = .ok (.iconst 0, 1) := by decide +kernel
theorem d_M_sell_36 : decode prog_5_method_24_code 36 = .ok (.ireturn, 1) := by decide +kernel
theorem d_M_sell_37 : decode prog_5_method_24_code 37 = .ok (.aload_n 0, 1) := by decide +kernel
theorem d_M_sell_38 : decode prog_5_method_24_code 38 = .ok (.getfield 7, 3) := by decide +kernel
theorem d_M_sell_41 : decode prog_5_method_24_code 41 = .ok (.iload_n 1, 1) := by decide +kernel
theorem d_M_sell_42 : decode prog_5_method_24_code 42 = .ok (.invokestatic 103, 3) := by decide +kernel
theorem d_M_sell_45 : decode prog_5_method_24_code 45 = .ok (.iaload, 1) := by decide +kernel
theorem d_M_sell_46 : decode prog_5_method_24_code 46 = .ok (.istore_n 2, 1) := by decide +kernel
theorem d_M_sell_47 : decode prog_5_method_24_code 47 = .ok (.aload_n 0, 1) := by decide +kernel
theorem d_M_sell_48 : decode prog_5_method_24_code 48 = .ok (.getfield 7, 3) := by decide +kernel
theorem d_M_sell_51 : decode prog_5_method_24_code 51 = .ok (.iload_n 1, 1) := by decide +kernel
theorem d_M_sell_52 : decode prog_5_method_24_code 52 = .ok (.invokestatic 103, 3) := by decide +kernel
theorem d_M_sell_55 : decode prog_5_method_24_code 55 = .ok (.iconst (-1), 1) := by decide +kernel
theorem d_M_sell_56 : decode prog_5_method_24_code 56 = .ok (.iastore, 1) := by decide +kernel
theorem d_M_sell_57 : decode prog_5_method_24_code 57 = .ok (.iload_n 2, 1) := by decide +kernel
theorem d_M_sell_58 : decode prog_5_method_24_code 58 = .ok (.ireturn, 1) := by decide +kernel
theorem d_M_weak_0 : decode prog_5_method_25_code 0 = .ok (.aload_n 0, 1) := by decide +kernel
theorem d_M_weak_1 : decode prog_5_method_25_code 1 = .ok (.aload_n 0, 1) := by decide +kernel
theorem d_M_weak_2 : decode prog_5_method_25_code 2 = .ok (.iload_n 1, 1) := by decide +kernel
theorem d_M_weak_3 : decode prog_5_method_25_code 3 = .ok (.invokevirtual 106, 3) := by decide +kernel
theorem d_M_weak_6 : decode prog_5_method_25_code 6 = .ok (.ifCond .eq 7, 3) := by decide +kernel
theorem d_M_weak_9 : decode prog_5_method_25_code 9 = .ok (.iconst 0, 1) := by decide +kernel
theorem d_M_weak_10 : decode prog_5_method_25_code 10 = .ok (.goto 4, 3) := by decide +kernel
theorem d_M_weak_13 : decode prog_5_method_25_code 13 = .ok (.iconst 1, 1) := by decide +kernel
theorem d_M_weak_14 : decode prog_5_method_25_code 14 = .ok (.putfield 45, 3) := by decide +kernel
theorem d_M_weak_17 : decode prog_5_method_25_code 17 = .ok (.aload_n 0, 1) := by decide +kernel
theorem d_M_weak_18 : decode prog_5_method_25_code 18 = .ok (.getfield 45, 3) := by decide +kernel
theorem d_M_weak_21 : decode prog_5_method_25_code 21 = .ok (.ifCond .le 7, 3) := by decide +kernel
theorem d_M_weak_24 : decode prog_5_method_25_code 24 = .ok (.iconst 0, 1) := by decide +kernel
theorem d_M_weak_25 : decode prog_5_method_25_code 25 = .ok (.goto 6, 3) := by decide +kernel
theorem d_M_weak_28 : decode prog_5_method_25_code 28 = .ok (.iload_n 1, 1) := by decide +kernel
theorem d_M_weak_29 : decode prog_5_method_25_code 29 = .ok (.iconst 1, 1) := by decide +kernel
theorem d_M_weak_30 : decode prog_5_method_25_code 30 = .ok (.ior, 1) := by decide +kernel
theorem d_M_weak_31 : decode prog_5_method_25_code 31 = .ok (.ireturn, 1) := by decide +kernel
theorem d_M_read_0 : decode prog_5_method_26_code 0 = .ok (.aload_n 0, 1) := by decide +kernel
theorem d_M_read_1 : decode prog_5_method_26_code 1 = .ok (.aload_n 0, 1) := by decide +kernel
theorem d_M_read_2 : decode prog_5_method_26_code 2 = .ok (.iload_n 1, 1) := by decide +kernel
theorem d_M_read_3 : decode prog_5_method_26_code 3 = .ok (.invokevirtual 106, 3) := by decide +kernel
theorem d_M_read_6 : decode prog_5_method_26_code 6 = .ok (.ifCond .ne 7, 3) := by decide +kernel
theorem d_M_read_9 : decode prog_5_method_26_code 9 = .ok (.iconst 1, 1) := by decide +kernel
theorem d_M_read_10 : decode prog_5_method_26_code 10 = .ok (.goto 17, 3) := by decide +kernel
theorem d_M_read_13 : decode prog_5_method_26_code 13 = .ok (.iload_n 2, 1) := by decide +kernel
theorem d_M_read_14 : decode prog_5_method_26_code 14 = .ok (.iconst 0, 1) := by decide +kernel
theorem d_M_read_15 : decode prog_5_method_26_code 15 = .ok (.iconst 3, 1) := by decide +kernel
theorem d_M_read_16 : decode prog_5_method_26_code 16 = .ok (.invokestatic 48, 3) := by decide +kernel
theorem d_M_read_19 : decode prog_5_method_26_code 19 = .ok (.ifCond .eq 7, 3) := by decide +kernel
theorem d_M_read_22 : decode prog_5_method_26_code 22 = .ok (.iconst 0, 1) := by decide +kernel
theorem d_M_read_23 : decode prog_5_method_26_code 23 = .ok (.goto 4, 3) := by decide +kernel
theorem d_M_read_26 : decode prog_5_method_26_code 26 = .ok (.iconst 2, 1) := by decide +kernel
theorem d_M_read_27 : decode prog_5_method_26_code 27 = .ok (.putfield 45, 3) := by decide +kernel
theorem d_M_read_30 : decode prog_5_method_26_code 30 = .ok (.aload_n 0, 1) := by decide +kernel
theorem d_M_read_31 : decode prog_5_method_26_code 31 = .ok (.getfield 45, 3) := by decide +kernel
theorem d_M_read_34 : decode prog_5_method_26_code 34 = .ok (.ifCond .le 7, 3) := by decide +kernel
theorem d_M_read_37 : decode prog_5_method_26_code 37 = .ok (.iconst 0, 1) := by decide +kernel
theorem d_M_read_38 : decode prog_5_method_26_code 38 = .ok (.goto 16, 3) := by decide +kernel
theorem d_M_read_41 : decode prog_5_method_26_code 41 = .ok (.aload_n 0, 1) := by decide +kernel
theorem d_M_read_42 : decode prog_5_method_26_code 42 = .ok (.getfield 22, 3) := by decide +kernel
theorem d_M_read_45 : decode prog_5_method_26_code 45 = .ok (.iconst 4, 1) := by decide +kernel
theorem d_M_read_46 : decode prog_5_method_26_code 46 = .ok (.iload_n 1, 1) := by decide +kernel
theorem d_M_read_47 : decode prog_5_method_26_code 47 = .ok (.invokestatic 103, 3) := by decide +kernel
theorem d_M_read_50 : decode prog_5_method_26_code 50 = .ok (.imul, 1) := by decide +kernel
theorem d_M_read_51 : decode prog_5_method_26_code 51 = .ok (.iload_n 2, 1) := by decide +kernel
theorem d_M_read_52 : decode prog_5_method_26_code 52 = .ok (.iadd, 1) := by decide +kernel
theorem d_M_read_53 : decode prog_5_method_26_code 53 = .ok (.iaload, 1) := by decide +kernel
theorem d_M_read_54 : decode prog_5_method_26_code 54 = .ok (.ireturn, 1) := by decide +kernel
theorem d_M_write_0 : decode prog_5_method_27_code 0 = .ok (.aload_n 0, 1) := by decide +kernel
theorem d_M_write_1 : decode prog_5_method_27_code 1 = .ok (.aload_n 0, 1) := by decide +kernel
theorem d_M_write_2 : decode prog_5_method_27_code 2 = .ok (.iload_n 1, 1) := by decide +kernel
theorem d_M_write_3 : decode prog_5_method_27_code 3 = .ok (.invokevirtual 106, 3) := by decide +kernel
theorem d_M_write_6 : decode prog_5_method_27_code 6 = .ok (.ifCond .ne 7, 3) := by decide +kernel
theorem d_M_write_9 : decode prog_5_method_27_code 9 = .ok (.iconst 1, 1) := by decide +kernel
theorem d_M_write_10 : decode prog_5_method_27_code 10 = .ok (.goto 28, 3) := by decide +kernel
theorem d_M_write_13 : decode prog_5_method_27_code 13 = .ok (.iload_n 1, 1) := by decide +kernel
theorem d_M_write_14 : decode prog_5_method_27_code 14 = .ok (.invokestatic 109, 3) := by decide +kernel
theorem d_M_write_17 : decode prog_5_method_27_code 17 = .ok (.ifCond .eq 7, 3) := by decide +kernel
theorem d_M_write_20 : decode prog_5_method_27_code 20 = .ok (.iconst 2, 1) := by decide +kernel
theorem d_M_write_21 : decode prog_5_method_27_code 21 = .ok (.goto 17, 3) := by decide +kernel
theorem d_M_write_24 : decode prog_5_method_27_code 24 = .ok (.iload_n 2, 1) := by decide +kernel
theorem d_M_write_25 : decode prog_5_method_27_code 25 = .ok (.iconst 0, 1) := by decide +kernel
theorem d_M_write_26 : decode prog_5_method_27_code 26 = .ok (.iconst 3, 1) := by decide +kernel
theorem d_M_write_27 : decode prog_5_method_27_code 27 = .ok (.invokestatic 48, 3) := by decide +kernel
theorem d_M_write_30 : decode prog_5_method_27_code 30 = .ok (.ifCond .eq 7, 3) := by decide +kernel
theorem d_M_write_33 : decode prog_5_method_27_code 33 = .ok (.iconst 0, 1) := by decide +kernel
theorem d_M_write_34 : decode prog_5_method_27_code 34 = .ok (.goto 4, 3) := by decide +kernel
theorem d_M_write_37 : decode prog_5_method_27_code 37 = .ok (.iconst 3, 1) := by decide +kernel
theorem d_M_write_38 : decode prog_5_method_27_code 38 = .ok (.putfield 45, 3) := by decide +kernel
theorem d_M_write_41 : decode prog_5_method_27_code 41 = .ok (.aload_n 0, 1) := by decide +kernel
theorem d_M_write_42 : decode prog_5_method_27_code 42 = .ok (.getfield 45, 3) := by decide +kernel
theorem d_M_write_45 : decode prog_5_method_27_code 45 = .ok (.ifCond .le 5, 3) := by decide +kernel
theorem d_M_write_48 : decode prog_5_method_27_code 48 = .ok (.iconst 0, 1) := by decide +kernel
theorem d_M_write_49 : decode prog_5_method_27_code 49 = .ok (.ireturn, 1) := by decide +kernel
theorem d_M_write_50 : decode prog_5_method_27_code 50 = .ok (.iconst 4, 1) := by decide +kernel
theorem d_M_write_51 : decode prog_5_method_27_code 51 = .ok (.iload_n 1, 1) := by decide +kernel
theorem d_M_write_52 : decode prog_5_method_27_code 52 = .ok (.invokestatic 103, 3) := by decide +kernel
theorem d_M_write_55 : decode prog_5_method_27_code 55 = .ok (.imul, 1) := by decide +kernel
theorem d_M_write_56 : decode prog_5_method_27_code 56 = .ok (.iload_n 2, 1) := by decide +kernel
theorem d_M_write_57 : decode prog_5_method_27_code 57 = .ok (.iadd, 1) := by decide +kernel
theorem d_M_write_58 : decode prog_5_method_27_code 58 = .ok (.istore 4, 2) := by decide +kernel
theorem d_M_write_60 : decode prog_5_method_27_code 60 = .ok (.aload_n 0, 1) := by decide +kernel
theorem d_M_write_61 : decode prog_5_method_27_code 61 = .ok (.getfield 22, 3) := by decide +kernel
theorem d_M_write_64 : decode prog_5_method_27_code 64 = .ok (.iload 4, 2) := by decide +kernel
theorem d_M_write_66 : decode prog_5_method_27_code 66 = .ok (.iaload, 1) := by decide +kernel
theorem d_M_write_67 : decode prog_5_method_27_code 67 = .ok (.istore 5, 2) := by decide +kernel
theorem d_M_write_69 : decode prog_5_method_27_code 69 = .ok (.aload_n 0, 1) := by decide +kernel
theorem d_M_write_70 : decode prog_5_method_27_code 70 = .ok (.getfield 22, 3) := by decide +kernel
theorem d_M_write_73 : decode prog_5_method_27_code 73 = .ok (.iload 4, 2) := by decide +kernel
theorem d_M_write_75 : decode prog_5_method_27_code 75 = .ok (.iload_n 3, 1) := by decide +kernel
theorem d_M_write_76 : decode prog_5_method_27_code 76 = .ok (.iastore, 1) := by decide +kernel
theorem d_M_write_77 : decode prog_5_method_27_code 77 = .ok (.iload 5, 2) := by decide +kernel
theorem d_M_write_79 : decode prog_5_method_27_code 79 = .ok (.ireturn, 1) := by decide +kernel
theorem d_M_move_0 : decode prog_5_method_28_code 0 = .ok (.aload_n 0, 1) := by decide +kernel
theorem d_M_move_1 : decode prog_5_method_28_code 1 = .ok (.aload_n 0, 1) := by decide +kernel
theorem d_M_move_2 : decode prog_5_method_28_code 2 = .ok (.iload_n 1, 1) := by decide +kernel
theorem d_M_move_3 : decode prog_5_method_28_code 3 = .ok (.invokevirtual 106, 3) := by decide +kernel
theorem d_M_move_6 : decode prog_5_method_28_code 6 = .ok (.ifCond .ne 7, 3) := by decide +kernel
theorem d_M_move_9 : decode prog_5_method_28_code 9 = .ok (.iconst 1, 1) := by decide +kernel
theorem d_M_move_10 : decode prog_5_method_28_code 10 = .ok (.goto 39, 3) := by decide +kernel
theorem d_M_move_13 : decode prog_5_method_28_code 13 = .ok (.iload_n 1, 1) := by decide +kernel
theorem d_M_move_14 : decode prog_5_method_28_code 14 = .ok (.invokestatic 109, 3) := by decide +kernel
theorem d_M_move_17 : decode prog_5_method_28_code 17 = .ok (.ifCond .eq 7, 3) := by decide +kernel
theorem d_M_move_20 : decode prog_5_method_28_code 20 = .ok (.iconst 2, 1) := by decide +kernel
theorem d_M_move_21 : decode prog_5_method_28_code 21 = .ok (.goto 28, 3) := by decide +kernel
theorem d_M_move_24 : decode prog_5_method_28_code 24 = .ok (.aload_n 0, 1) := by decide +kernel
theorem d_M_move_25 : decode prog_5_method_28_code 25 = .ok (.iload_n 2, 1) := by decide +kernel
theorem d_M_move_26 : decode prog_5_method_28_code 26 = .ok (.invokevirtual 63, 3) := by decide +kernel
theorem d_M_move_29 : decode prog_5_method_28_code 29 = .ok (.ifCond .ne 7, 3) := by decide +kernel
theorem d_M_move_32 : decode prog_5_method_28_code 32 = .ok (.iconst 3, 1) := by decide +kernel
theorem d_M_move_33 : decode prog_5_method_28_code 33 = .ok (.goto 16, 3) := by decide +kernel
theorem d_M_move_36 : decode prog_5_method_28_code 36 = .ok (.aload_n 0, 1) := by decide +kernel
theorem d_M_move_37 : decode prog_5_method_28_code 37 = .ok (.iload_n 2, 1) := by decide +kernel
theorem d_M_move_38 : decode prog_5_method_28_code 38 = .ok (.invokevirtual 67, 3) := by decide +kernel
theorem d_M_move_41 : decode prog_5_method_28_code 41 = .ok (.ifCond .ne 7, 3) := by decide +kernel
theorem d_M_move_44 : decode prog_5_method_28_code 44 = .ok (.iconst 4, 1) := by decide +kernel
theorem d_M_move_45 : decode prog_5_method_28_code 45 = .ok (.goto 4, 3) := by decide +kernel
theorem d_M_move_48 : decode prog_5_method_28_code 48 = .ok (.iconst 0, 1) := by decide +kernel
theorem d_M_move_49 : decode prog_5_method_28_code 49 = .ok (.putfield 45, 3) := by decide +kernel
theorem d_M_move_52 : decode prog_5_method_28_code 52 = .ok (.aload_n 0, 1) := by decide +kernel
theorem d_M_move_53 : decode prog_5_method_28_code 53 = .ok (.getfield 45, 3) := by decide +kernel
theorem d_M_move_56 : decode prog_5_method_28_code 56 = .ok (.ifCond .le 5, 3) := by decide +kernel
theorem d_M_move_59 : decode prog_5_method_28_code 59 = .ok (.iconst 0, 1) := by decide +kernel
theorem d_M_move_60 : decode prog_5_method_28_code 60 = .ok (.ireturn, 1) := by decide +kernel
theorem d_M_move_61 : decode prog_5_method_28_code 61 = .ok (.iload_n 1, 1) := by decide +kernel
theorem d_M_move_62 : decode prog_5_method_28_code 62 = .ok (.invokestatic 103, 3) := by decide +kernel
theorem d_M_move_65 : decode prog_5_method_28_code 65 = .ok (.istore_n 3, 1) := by decide +kernel
theorem d_M_move_66 : decode prog_5_method_28_code 66 = .ok (.aload_n 0, 1) := by decide +kernel
theorem d_M_move_67 : decode prog_5_method_28_code 67 = .ok (.getfield 7, 3) := by decide +kernel
theorem d_M_move_70 : decode prog_5_method_28_code 70 = .ok (.iload_n 3, 1) := by decide +kernel
theorem d_M_move_71 : decode prog_5_method_28_code 71 = .ok (.iaload, 1) := by decide +kernel
theorem d_M_move_72 : decode prog_5_method_28_code 72 = .ok (.istore 4, 2) := by decide +kernel
theorem d_M_move_74 : decode prog_5_method_28_code 74 = .ok (.aload_n 0, 1) := by decide +kernel
theorem d_M_move_75 : decode prog_5_method_28_code 75 = .ok (.getfield 7, 3) := by decide +kernel
theorem d_M_move_78 : decode prog_5_method_28_code 78 = .ok (.iload_n 3, 1) := by decide +kernel
theorem d_M_move_79 : decode prog_5_method_28_code 79 = .ok (.iconst (-1), 1) := by decide +kernel
theorem d_M_move_80 : decode prog_5_method_28_code 80 = .ok (.iastore, 1) := by decide +kernel
theorem d_M_move_81 : decode prog_5_method_28_code 81 = .ok (.aload_n 0, 1) := by decide +kernel
theorem d_M_move_82 : decode prog_5_method_28_code 82 = .ok (.iload_n 2, 1) := by decide +kernel
theorem d_M_move_83 : decode prog_5_method_28_code 83 = .ok (.iconst 1, 1) := by decide +kernel
theorem d_M_move_84 : decode prog_5_method_28_code 84 = .ok (.invokevirtual 83, 3) := by decide +kernel
theorem d_M_move_87 : decode prog_5_method_28_code 87 = .ok (.istore 5, 2) := by decide +kernel
theorem d_M_move_89 : decode prog_5_method_28_code 89 = .ok (.aload_n 0, 1) := by decide +kernel
theorem d_M_move_90 : decode prog_5_method_28_code 90 = .ok (.getfield 7, 3) := by decide +kernel
theorem d_M_move_93 : decode prog_5_method_28_code 93 = .ok (.iload_n 3, 1) := by decide +kernel
theorem d_M_move_94 : decode prog_5_method_28_code 94 = .ok (.iload 4, 2) := by decide +kernel
theorem d_M_move_96 : decode prog_5_method_28_code 96 = .ok (.iastore, 1) := by decide +kernel
theorem d_M_move_97 : decode prog_5_method_28_code 97 = .ok (.iload 5, 2) := by decide +kernel
theorem d_M_move_99 : decode prog_5_method_28_code 99 = .ok (.ifCond .lt 16, 3) := by decide +kernel
theorem d_M_move_102 : decode prog_5_method_28_code 102 = .ok (.aload_n 0, 1) := by decide +kernel
theorem d_M_move_103 : decode prog_5_method_28_code 103 = .ok (.aload_n 0, 1) := by decide +kernel
theorem d_M_move_104 : decode prog_5_method_28_code 104 = .ok (.iconst 5, 1) := by decide +kernel
theorem d_M_move_105 : decode prog_5_method_28_code 105 = .ok (.iload 5, 2) := by decide +kernel
theorem d_M_move_107 : decode prog_5_method_28_code 107 = .ok (.invokevirtual 73, 3) := by decide +kernel
theorem d_M_move_110 : decode prog_5_method_28_code 110 = .ok (.putfield 45, 3) := by decide +kernel
theorem d_M_move_113 : decode prog_5_method_28_code 113 = .ok (.iconst 0, 1) := by decide +kernel
theorem d_M_move_114 : decode prog_5_method_28_code 114 = .ok (.ireturn, 1) := by decide +kernel
theorem d_M_move_115 : decode prog_5_method_28_code 115 = .ok (.aload_n 0, 1) := by decide +kernel
theorem d_M_move_116 : decode prog_5_method_28_code 116 = .ok (.iload_n 3, 1) := by decide +kernel
theorem d_M_move_117 : decode prog_5_method_28_code 117 = .ok (.iload_n 2, 1) := by decide +kernel
theorem d_M_move_118 : decode prog_5_method_28_code 118 = .ok (.invokevirtual 92, 3) := by decide +kernel
theorem d_M_move_121 : decode prog_5_method_28_code 121 = .ok (.iload 4, 2) := by decide +kernel
theorem d_M_move_123 : decode prog_5_method_28_code 123 = .ok (.ireturn, 1) := by decide +kernel
theorem d_M_limit_0 : decode prog_5_method_29_code 0 = .ok (.aload_n 0, 1) := by decide +kernel
theorem d_M_limit_1 : decode prog_5_method_29_code 1 = .ok (.aload_n 0, 1) := by decide +kernel
theorem d_M_limit_2 : decode prog_5_method_29_code 2 = .ok (.iload_n 1, 1) := by decide +kernel
theorem d_M_limit_3 : decode prog_5_method_29_code 3 = .ok (.invokevirtual 63, 3) := by decide +kernel
theorem d_M_limit_6 : decode prog_5_method_29_code 6 = .ok (.ifCond .ne 7, 3) := by decide +kernel
theorem d_M_limit_9 : decode prog_5_method_29_code 9 = .ok (.iconst 1, 1) := by decide +kernel
theorem d_M_limit_10 : decode prog_5_method_29_code 10 = .ok (.goto 46, 3) := by decide +kernel
theorem d_M_limit_13 : decode prog_5_method_29_code 13 = .ok (.iload_n 2, 1) := by decide +kernel
theorem d_M_limit_14 : decode prog_5_method_29_code 14 = .ok (.iconst 0, 1) := by decide +kernel
theorem d_M_limit_15 : decode prog_5_method_29_code 15 = .ok (.sipush 192, 3) := by decide +kernel
theorem d_M_limit_18 : decode prog_5_method_29_code 18 = .ok (.invokestatic 48, 3) := by decide +kernel
theorem d_M_limit_21 : decode prog_5_method_29_code 21 = .ok (.ifCond .eq 7, 3) := by decide +kernel
theorem d_M_limit_24 : decode prog_5_method_29_code 24 = .ok (.iload_n 1, 1) := by decide +kernel
theorem d_M_limit_25 : decode prog_5_method_29_code 25 = .ok (.ifCond .ne 7, 3) := by decide +kernel
theorem d_M_limit_28 : decode prog_5_method_29_code 28 = .ok (.iconst 2, 1) := by decide +kernel
theorem d_M_limit_29 : decode prog_5_method_29_code 29 = .ok (.goto 27, 3) := by decide +kernel
theorem d_M_limit_32 : decode prog_5_method_29_code 32 = .ok (.aload_n 0, 1) := by decide +kernel
