theorem d_M_init_0 : decode prog_5_method_1_code 0 = .ok (.aload_n 0, 1) := by decide +kernel
theorem d_M_init_1 : decode prog_5_method_1_code 1 = .ok (.invokespecial 1, 3) := by decide +kernel
theorem d_M_init_4 : decode prog_5_method_1_code 4 = .ok (.aload_n 0, 1) := by decide +kernel
theorem d_M_init_5 : decode prog_5_method_1_code 5 = .ok (.sipush 192, 3) := by decide +kernel
theorem d_M_init_8 : decode prog_5_method_1_code 8 = .ok (.newarray .int, 2) := by decide +kernel
theorem d_M_init_10 : decode prog_5_method_1_code 10 = .ok (.putfield 7, 3) := by decide +kernel
theorem d_M_init_13 : decode prog_5_method_1_code 13 = .ok (.aload_n 0, 1) := by decide +kernel
theorem d_M_init_14 : decode prog_5_method_1_code 14 = .ok (.sipush 192, 3) := by decide +kernel
theorem d_M_init_17 : decode prog_5_method_1_code 17 = .ok (.newarray .int, 2) := by decide +kernel
theorem d_M_init_19 : decode prog_5_method_1_code 19 = .ok (.putfield 13, 3) := by decide +kernel
theorem d_M_init_22 : decode prog_5_method_1_code 22 = .ok (.aload_n 0, 1) := by decide +kernel
theorem d_M_init_23 : decode prog_5_method_1_code 23 = .ok (.sipush 192, 3) := by decide +kernel
theorem d_M_init_26 : decode prog_5_method_1_code 26 = .ok (.newarray .int, 2) := by decide +kernel
theorem d_M_init_28 : decode prog_5_method_1_code 28 = .ok (.putfield 16, 3) := by decide +kernel
theorem d_M_init_31 : decode prog_5_method_1_code 31 = .ok (.aload_n 0, 1) := by decide +kernel
theorem d_M_init_32 : decode prog_5_method_1_code 32 = .ok (.sipush 192, 3) := by decide +kernel
theorem d_M_init_35 : decode prog_5_method_1_code 35 = .ok (.newarray .int, 2) := by decide +kernel
theorem d_M_init_37 : decode prog_5_method_1_code 37 = .ok (.putfield 19, 3) := by decide +kernel
theorem d_M_init_40 : decode prog_5_method_1_code 40 = .ok (.aload_n 0, 1) := by decide +kernel
theorem d_M_init_41 : decode prog_5_method_1_code 41 = .ok (.sipush 768, 3) := by decide +kernel
theorem d_M_init_44 : decode prog_5_method_1_code 44 = .ok (.newarray .int, 2) := by decide +kernel
theorem d_M_init_46 : decode prog_5_method_1_code 46 = .ok (.putfield 22, 3) := by decide +kernel
theorem d_M_init_49 : decode prog_5_method_1_code 49 = .ok (.aload_n 0, 1) := by decide +kernel
theorem d_M_init_50 : decode prog_5_method_1_code 50 = .ok (.bipush 40, 2) := by decide +kernel
theorem d_M_init_52 : decode prog_5_method_1_code 52 = .ok (.newarray .boolean, 2) := by decide +kernel
theorem d_M_init_54 : decode prog_5_method_1_code 54 = .ok (.putfield 25, 3) := by decide +kernel
theorem d_M_init_57 : decode prog_5_method_1_code 57 = .ok (.aload_n 0, 1) := by decide +kernel
theorem d_M_init_58 : decode prog_5_method_1_code 58 = .ok (.bipush 40, 2) := by decide +kernel
theorem d_M_init_60 : decode prog_5_method_1_code 60 = .ok (.newarray .int, 2) := by decide +kernel
theorem d_M_init_62 : decode prog_5_method_1_code 62 = .ok (.putfield 29, 3) := by decide +kernel
theorem d_M_init_65 : decode prog_5_method_1_code 65 = .ok (.aload_n 0, 1) := by decide +kernel
theorem d_M_init_66 : decode prog_5_method_1_code 66 = .ok (.bipush 40, 2) := by decide +kernel
theorem d_M_init_68 : decode prog_5_method_1_code 68 = .ok (.newarray .int, 2) := by decide +kernel
theorem d_M_init_70 : decode prog_5_method_1_code 70 = .ok (.putfield 32, 3) := by decide +kernel
theorem d_M_init_73 : decode prog_5_method_1_code 73 = .ok (.aload_n 0, 1) := by decide +kernel
theorem d_M_init_74 : decode prog_5_method_1_code 74 = .ok (.bipush 40, 2) := by decide +kernel
theorem d_M_init_76 : decode prog_5_method_1_code 76 = .ok (.newarray .int, 2) := by decide +kernel
theorem d_M_init_78 : decode prog_5_method_1_code 78 = .ok (.putfield 35, 3) := by decide +kernel
theorem d_M_init_81 : decode prog_5_method_1_code 81 = .ok (.aload_n 0, 1) := by decide +kernel
theorem d_M_init_82 : decode prog_5_method_1_code 82 = .ok (.bipush 40, 2) := by decide +kernel
theorem d_M_init_84 : decode prog_5_method_1_code 84 = .ok (.newarray .int, 2) := by decide +kernel
theorem d_M_init_86 : decode prog_5_method_1_code 86 = .ok (.putfield 38, 3) := by decide +kernel
theorem d_M_init_89 : decode prog_5_method_1_code 89 = .ok (.aload_n 0, 1) := by decide +kernel
theorem d_M_init_90 : decode prog_5_method_1_code 90 = .ok (.iconst (-1), 1) := by decide +kernel
theorem d_M_init_91 : decode prog_5_method_1_code 91 = .ok (.putfield 41, 3) := by decide +kernel
theorem d_M_init_94 : decode prog_5_method_1_code 94 = .ok (.iconst 0, 1) := by decide +kernel
theorem d_M_init_95 : decode prog_5_method_1_code 95 = .ok (.istore_n 1, 1) := by decide +kernel
theorem d_M_init_96 : decode prog_5_method_1_code 96 = .ok (.iload_n 1, 1) := by decide +kernel
theorem d_M_init_97 : decode prog_5_method_1_code 97 = .ok (.sipush 192, 3) := by decide +kernel
theorem d_M_init_100 : decode prog_5_method_1_code 100 = .ok (.if_icmp .ge 16, 3) := by decide +kernel
theorem d_M_init_103 : decode prog_5_method_1_code 103 = .ok (.aload_n 0, 1) := by decide +kernel
theorem d_M_init_104 : decode prog_5_method_1_code 104 = .ok (.getfield 7, 3) := by decide +kernel
theorem d_M_init_107 : decode prog_5_method_1_code 107 = .ok (.iload_n 1, 1) := by decide +kernel
theorem d_M_init_108 : decode prog_5_method_1_code 108 = .ok (.iconst (-1), 1) := by decide +kernel
theorem d_M_init_109 : decode prog_5_method_1_code 109 = .ok (.iastore, 1) := by decide +kernel
theorem d_M_init_110 : decode prog_5_method_1_code 110 = .ok (.iinc 1 1, 3) := by decide +kernel
theorem d_M_init_113 : decode prog_5_method_1_code 113 = .ok (.goto (-17), 3) := by decide +kernel
theorem d_M_init_116 : decode prog_5_method_1_code 116 = .ok (.aload_n 0, 1) := by decide +kernel
theorem d_M_init_117 : decode prog_5_method_1_code 117 = .ok (.getfield 25, 3) := by decide +kernel
theorem d_M_init_120 : decode prog_5_method_1_code 120 = .ok (.iconst 0, 1) := by decide +kernel
theorem d_M_init_121 : decode prog_5_method_1_code 121 = .ok (.iconst 1, 1) := by decide +kernel
theorem d_M_init_122 : decode prog_5_method_1_code 122 = .ok (.bastore, 1) := by decide +kernel
theorem d_M_init_123 : decode prog_5_method_1_code 123 = .ok (.aload_n 0, 1) := by decide +kernel
theorem d_M_init_124 : decode prog_5_method_1_code 124 = .ok (.getfield 29, 3) := by decide +kernel
theorem d_M_init_127 : decode prog_5_method_1_code 127 = .ok (.iconst 0, 1) := by decide +kernel
theorem d_M_init_128 : decode prog_5_method_1_code 128 = .ok (.iconst (-1), 1) := by decide +kernel
theorem d_M_init_129 : decode prog_5_method_1_code 129 = .ok (.iastore, 1) := by decide +kernel
theorem d_M_init_130 : decode prog_5_method_1_code 130 = .ok (.aload_n 0, 1) := by decide +kernel
theorem d_M_init_131 : decode prog_5_method_1_code 131 = .ok (.getfield 32, 3) := by decide +kernel
theorem d_M_init_134 : decode prog_5_method_1_code 134 = .ok (.iconst 0, 1) := by decide +kernel
theorem d_M_init_135 : decode prog_5_method_1_code 135 = .ok (.sipush 192, 3) := by decide +kernel
theorem d_M_init_138 : decode prog_5_method_1_code 138 = .ok (.iastore, 1) := by decide +kernel
theorem d_M_init_139 : decode prog_5_method_1_code 139 = .ok (.return_, 1) := by decide +kernel
theorem d_M_thrown_0 : decode prog_5_method_2_code 0 = .ok (.aload_n 0, 1) := by decide +kernel
theorem d_M_thrown_1 : decode prog_5_method_2_code 1 = .ok (.getfield 45, 3) := by decide +kernel
theorem d_M_thrown_4 : decode prog_5_method_2_code 4 = .ok (.ireturn, 1) := by decide +kernel
theorem d_M_bank_0 : decode prog_5_method_12_code 0 = .ok (.aload_n 0, 1) := by decide +kernel
theorem d_M_bank_1 : decode prog_5_method_12_code 1 = .ok (.aload_n 0, 1) := by decide +kernel
theorem d_M_bank_2 : decode prog_5_method_12_code 2 = .ok (.iload_n 1, 1) := by decide +kernel
theorem d_M_bank_3 : decode prog_5_method_12_code 3 = .ok (.invokevirtual 63, 3) := by decide +kernel
theorem d_M_bank_6 : decode prog_5_method_12_code 6 = .ok (.ifCond .ne 7, 3) := by decide +kernel
theorem d_M_bank_9 : decode prog_5_method_12_code 9 = .ok (.iconst 1, 1) := by decide +kernel
theorem d_M_bank_10 : decode prog_5_method_12_code 10 = .ok (.goto 31, 3) := by decide +kernel
theorem d_M_bank_13 : decode prog_5_method_12_code 13 = .ok (.iload_n 2, 1) := by decide +kernel
theorem d_M_bank_14 : decode prog_5_method_12_code 14 = .ok (.iconst 0, 1) := by decide +kernel
theorem d_M_bank_15 : decode prog_5_method_12_code 15 = .ok (.sipush 192, 3) := by decide +kernel
theorem d_M_bank_18 : decode prog_5_method_12_code 18 = .ok (.invokestatic 48, 3) := by decide +kernel
theorem d_M_bank_21 : decode prog_5_method_12_code 21 = .ok (.ifCond .ne 7, 3) := by decide +kernel
theorem d_M_bank_24 : decode prog_5_method_12_code 24 = .ok (.iconst 2, 1) := by decide +kernel
theorem d_M_bank_25 : decode prog_5_method_12_code 25 = .ok (.goto 16, 3) := by decide +kernel
theorem d_M_bank_28 : decode prog_5_method_12_code 28 = .ok (.aload_n 0, 1) := by decide +kernel
theorem d_M_bank_29 : decode prog_5_method_12_code 29 = .ok (.iload_n 1, 1) := by decide +kernel
theorem d_M_bank_30 : decode prog_5_method_12_code 30 = .ok (.invokevirtual 67, 3) := by decide +kernel
theorem d_M_bank_33 : decode prog_5_method_12_code 33 = .ok (.ifCond .ne 7, 3) := by decide +kernel
theorem d_M_bank_36 : decode prog_5_method_12_code 36 = .ok (.iconst 3, 1) := by decide +kernel
theorem d_M_bank_37 : decode prog_5_method_12_code 37 = .ok (.goto 4, 3) := by decide +kernel
theorem d_M_bank_40 : decode prog_5_method_12_code 40 = .ok (.iconst 0, 1) := by decide +kernel
theorem d_M_bank_41 : decode prog_5_method_12_code 41 = .ok (.putfield 45, 3) := by decide +kernel
theorem d_M_bank_44 : decode prog_5_method_12_code 44 = .ok (.aload_n 0, 1) := by decide +kernel
theorem d_M_bank_45 : decode prog_5_method_12_code 45 = .ok (.getfield 45, 3) := by decide +kernel
theorem d_M_bank_48 : decode prog_5_method_12_code 48 = .ok (.ifCond .le 5, 3) := by decide +kernel
theorem d_M_bank_51 : decode prog_5_method_12_code 51 = .ok (.iconst 0, 1) := by decide +kernel
theorem d_M_bank_52 : decode prog_5_method_12_code 52 = .ok (.ireturn, 1) := by decide +kernel
theorem d_M_bank_53 : decode prog_5_method_12_code 53 = .ok (.iconst 1, 1) := by decide +kernel
theorem d_M_bank_54 : decode prog_5_method_12_code 54 = .ok (.istore_n 3, 1) := by decide +kernel
theorem d_M_bank_55 : decode prog_5_method_12_code 55 = .ok (.iload_n 3, 1) := by decide +kernel
theorem d_M_bank_56 : decode prog_5_method_12_code 56 = .ok (.bipush 40, 2) := by decide +kernel
theorem d_M_bank_58 : decode prog_5_method_12_code 58 = .ok (.if_icmp .ge 18, 3) := by decide +kernel
theorem d_M_bank_61 : decode prog_5_method_12_code 61 = .ok (.aload_n 0, 1) := by decide +kernel
theorem d_M_bank_62 : decode prog_5_method_12_code 62 = .ok (.getfield 25, 3) := by decide +kernel
theorem d_M_bank_65 : decode prog_5_method_12_code 65 = .ok (.iload_n 3, 1) := by decide +kernel
theorem d_M_bank_66 : decode prog_5_method_12_code 66 = .ok (.baload, 1) := by decide +kernel
theorem d_M_bank_67 : decode prog_5_method_12_code 67 = .ok (.ifCond .eq 9, 3) := by decide +kernel
theorem d_M_bank_70 : decode prog_5_method_12_code 70 = .ok (.iinc 3 1, 3) := by decide +kernel
theorem d_M_bank_73 : decode prog_5_method_12_code 73 = .ok (.goto (-18), 3) := by decide +kernel
theorem d_M_bank_76 : decode prog_5_method_12_code 76 = .ok (.aload_n 0, 1) := by decide +kernel
theorem d_M_bank_77 : decode prog_5_method_12_code 77 = .ok (.iload_n 1, 1) := by decide +kernel
theorem d_M_bank_78 : decode prog_5_method_12_code 78 = .ok (.invokevirtual 70, 3) := by decide +kernel
theorem d_M_bank_81 : decode prog_5_method_12_code 81 = .ok (.bipush 6, 2) := by decide +kernel
theorem d_M_bank_83 : decode prog_5_method_12_code 83 = .ok (.if_icmp .eq 9, 3) := by decide +kernel
theorem d_M_bank_86 : decode prog_5_method_12_code 86 = .ok (.iload_n 3, 1) := by decide +kernel
theorem d_M_bank_87 : decode prog_5_method_12_code 87 = .ok (.bipush 40, 2) := by decide +kernel
theorem d_M_bank_89 : decode prog_5_method_12_code 89 = .ok (.if_icmp .ne 15, 3) := by decide +kernel
theorem d_M_bank_92 : decode prog_5_method_12_code 92 = .ok (.aload_n 0, 1) := by decide +kernel
theorem d_M_bank_93 : decode prog_5_method_12_code 93 = .ok (.aload_n 0, 1) := by decide +kernel
theorem d_M_bank_94 : decode prog_5_method_12_code 94 = .ok (.iconst 4, 1) := by decide +kernel
theorem d_M_bank_95 : decode prog_5_method_12_code 95 = .ok (.iconst (-1), 1) := by decide +kernel
theorem d_M_bank_96 : decode prog_5_method_12_code 96 = .ok (.invokevirtual 73, 3) := by decide +kernel
theorem d_M_bank_99 : decode prog_5_method_12_code 99 = .ok (.putfield 45, 3) := by decide +kernel
theorem d_M_bank_102 : decode prog_5_method_12_code 102 = .ok (.iconst 0, 1) := by decide +kernel
theorem d_M_bank_103 : decode prog_5_method_12_code 103 = .ok (.ireturn, 1) := by decide +kernel
theorem d_M_bank_104 : decode prog_5_method_12_code 104 = .ok (.aload_n 0, 1) := by decide +kernel
theorem d_M_bank_105 : decode prog_5_method_12_code 105 = .ok (.getfield 25, 3) := by decide +kernel
theorem d_M_bank_108 : decode prog_5_method_12_code 108 = .ok (.iload_n 3, 1) := by decide +kernel
theorem d_M_bank_109 : decode prog_5_method_12_code 109 = .ok (.iconst 1, 1) := by decide +kernel
theorem d_M_bank_110 : decode prog_5_method_12_code 110 = .ok (.bastore, 1) := by decide +kernel
theorem d_M_bank_111 : decode prog_5_method_12_code 111 = .ok (.aload_n 0, 1) := by decide +kernel
theorem d_M_bank_112 : decode prog_5_method_12_code 112 = .ok (.getfield 29, 3) := by decide +kernel
theorem d_M_bank_115 : decode prog_5_method_12_code 115 = .ok (.iload_n 3, 1) := by decide +kernel
theorem d_M_bank_116 : decode prog_5_method_12_code 116 = .ok (.iload_n 1, 1) := by decide +kernel
theorem d_M_bank_117 : decode prog_5_method_12_code 117 = .ok (.iastore, 1) := by decide +kernel
theorem d_M_bank_118 : decode prog_5_method_12_code 118 = .ok (.aload_n 0, 1) := by decide +kernel
theorem d_M_bank_119 : decode prog_5_method_12_code 119 = .ok (.getfield 32, 3) := by decide +kernel
theorem d_M_bank_122 : decode prog_5_method_12_code 122 = .ok (.iload_n 3, 1) := by decide +kernel
theorem d_M_bank_123 : decode prog_5_method_12_code 123 = .ok (.iload_n 2, 1) := by decide +kernel
theorem d_M_bank_124 : decode prog_5_method_12_code 124 = .ok (.iastore, 1) := by decide +kernel
theorem d_M_bank_125 : decode prog_5_method_12_code 125 = .ok (.aload_n 0, 1) := by decide +kernel
theorem d_M_bank_126 : decode prog_5_method_12_code 126 = .ok (.getfield 35, 3) := by decide +kernel
theorem d_M_bank_129 : decode prog_5_method_12_code 129 = .ok (.iload_n 3, 1) := by decide +kernel
theorem d_M_bank_130 : decode prog_5_method_12_code 130 = .ok (.iconst 0, 1) := by decide +kernel
theorem d_M_bank_131 : decode prog_5_method_12_code 131 = .ok (.iastore, 1) := by decide +kernel
theorem d_M_bank_132 : decode prog_5_method_12_code 132 = .ok (.aload_n 0, 1) := by decide +kernel
theorem d_M_bank_133 : decode prog_5_method_12_code 133 = .ok (.getfield 38, 3) := by decide +kernel
theorem d_M_bank_136 : decode prog_5_method_12_code 136 = .ok (.iload_n 3, 1) := by decide +kernel
theorem d_M_bank_137 : decode prog_5_method_12_code 137 = .ok (.iconst 0, 1) := by decide +kernel
theorem d_M_bank_138 : decode prog_5_method_12_code 138 = .ok (.iastore, 1) := by decide +kernel
theorem d_M_bank_139 : decode prog_5_method_12_code 139 = .ok (.iload_n 3, 1) := by decide +kernel
theorem d_M_bank_140 : decode prog_5_method_12_code 140 = .ok (.ireturn, 1) := by decide +kernel
theorem d_M_isBank_0 : decode prog_5_method_4_code 0 = .ok (.iload_n 1, 1) := by decide +kernel
theorem d_M_isBank_1 : decode prog_5_method_4_code 1 = .ok (.iconst 0, 1) := by decide +kernel
theorem d_M_isBank_2 : decode prog_5_method_4_code 2 = .ok (.bipush 39, 2) := by decide +kernel
theorem d_M_isBank_4 : decode prog_5_method_4_code 4 = .ok (.invokestatic 48, 3) := by decide +kernel
theorem d_M_isBank_7 : decode prog_5_method_4_code 7 = .ok (.ifCond .eq 16, 3) := by decide +kernel
theorem d_M_isBank_10 : decode prog_5_method_4_code 10 = .ok (.aload_n 0, 1) := by decide +kernel
theorem d_M_isBank_11 : decode prog_5_method_4_code 11 = .ok (.getfield 25, 3) := by decide +kernel
theorem d_M_isBank_14 : decode prog_5_method_4_code 14 = .ok (.iload_n 1, 1) := by decide +kernel
theorem d_M_isBank_15 : decode prog_5_method_4_code 15 = .ok (.baload, 1) := by decide +kernel
theorem d_M_isBank_16 : decode prog_5_method_4_code 16 = .ok (.ifCond .eq 7, 3) := by decide +kernel
theorem d_M_isBank_19 : decode prog_5_method_4_code 19 = .ok (.iconst 1, 1) := by decide +kernel
theorem d_M_isBank_20 : decode prog_5_method_4_code 20 = .ok (.goto 4, 3) := by decide +kernel
theorem d_M_isBank_23 : decode prog_5_method_4_code 23 = .ok (.iconst 0, 1) := by decide +kernel
theorem d_M_isBank_24 : decode prog_5_method_4_code 24 = .ok (.ireturn, 1) := by decide +kernel
theorem d_M_in_0 : decode prog_5_method_3_code 0 = .ok (.iload_n 0, 1) := by decide +kernel
theorem d_M_in_1 : decode prog_5_method_3_code 1 = .ok (.iload_n 1, 1) := by decide +kernel
theorem d_M_in_2 : decode prog_5_method_3_code 2 = .ok (.if_icmp .lt 12, 3) := by decide +kernel
theorem d_M_in_5 : decode prog_5_method_3_code 5 = .ok (.iload_n 0, 1) := by decide +kernel
theorem d_M_in_6 : decode prog_5_method_3_code 6 = .ok (.iload_n 2, 1) := by decide +kernel
theorem d_M_in_7 : decode prog_5_method_3_code 7 = .ok (.if_icmp .gt 7, 3) := by decide +kernel
theorem d_M_in_10 : decode prog_5_method_3_code 10 = .ok (.iconst 1, 1) := by decide +kernel
theorem d_M_in_11 : decode prog_5_method_3_code 11 = .ok (.goto 4, 3) := by decide +kernel
theorem d_M_in_14 : decode prog_5_method_3_code 14 = .ok (.iconst 0, 1) := by decide +kernel
theorem d_M_in_15 : decode prog_5_method_3_code 15 = .ok (.ireturn, 1) := by decide +kernel
theorem d_M_isOpen_0 : decode prog_5_method_10_code 0 = .ok (.aload_n 0, 1) := by decide +kernel
theorem d_M_isOpen_1 : decode prog_5_method_10_code 1 = .ok (.getfield 35, 3) := by decide +kernel
theorem d_M_isOpen_4 : decode prog_5_method_10_code 4 = .ok (.iload_n 1, 1) := by decide +kernel
theorem d_M_isOpen_5 : decode prog_5_method_10_code 5 = .ok (.iaload, 1) := by decide +kernel
theorem d_M_isOpen_6 : decode prog_5_method_10_code 6 = .ok (.ifCond .ne 7, 3) := by decide +kernel
theorem d_M_isOpen_9 : decode prog_5_method_10_code 9 = .ok (.iconst 1, 1) := by decide +kernel
theorem d_M_isOpen_10 : decode prog_5_method_10_code 10 = .ok (.goto 4, 3) := by decide +kernel
theorem d_M_isOpen_13 : decode prog_5_method_10_code 13 = .ok (.iconst 0, 1) := by decide +kernel
theorem d_M_isOpen_14 : decode prog_5_method_10_code 14 = .ok (.ireturn, 1) := by decide +kernel
theorem d_M_depthOf_0 : decode prog_5_method_6_code 0 = .ok (.iconst 0, 1) := by decide +kernel
theorem d_M_depthOf_1 : decode prog_5_method_6_code 1 = .ok (.istore_n 2, 1) := by decide +kernel
theorem d_M_depthOf_2 : decode prog_5_method_6_code 2 = .ok (.aload_n 0, 1) := by decide +kernel
theorem d_M_depthOf_3 : decode prog_5_method_6_code 3 = .ok (.getfield 29, 3) := by decide +kernel
theorem d_M_depthOf_6 : decode prog_5_method_6_code 6 = .ok (.iload_n 1, 1) := by decide +kernel
theorem d_M_depthOf_7 : decode prog_5_method_6_code 7 = .ok (.iaload, 1) := by decide +kernel
theorem d_M_depthOf_8 : decode prog_5_method_6_code 8 = .ok (.istore_n 3, 1) := by decide +kernel
theorem d_M_depthOf_9 : decode prog_5_method_6_code 9 = .ok (.iload_n 3, 1) := by decide +kernel
theorem d_M_depthOf_10 : decode prog_5_method_6_code 10 = .ok (.ifCond .lt 16, 3) := by decide +kernel
theorem d_M_depthOf_13 : decode prog_5_method_6_code 13 = .ok (.iinc 2 1, 3) := by decide +kernel
theorem d_M_depthOf_16 : decode prog_5_method_6_code 16 = .ok (.aload_n 0, 1) := by decide +kernel
theorem d_M_depthOf_17 : decode prog_5_method_6_code 17 = .ok (.getfield 29, 3) := by decide +kernel
theorem d_M_depthOf_20 : decode prog_5_method_6_code 20 = .ok (.iload_n 3, 1) := by decide +kernel
theorem d_M_depthOf_21 : decode prog_5_method_6_code 21 = .ok (.iaload, 1) := by decide +kernel
theorem d_M_depthOf_22 : decode prog_5_method_6_code 22 = .ok (.istore_n 3, 1) := by decide +kernel
theorem d_M_depthOf_23 : decode prog_5_method_6_code 23 = .ok (.goto (-14), 3) := by decide +kernel
theorem d_M_depthOf_26 : decode prog_5_method_6_code 26 = .ok (.iload_n 2, 1) := by decide +kernel
theorem d_M_depthOf_27 : decode prog_5_method_6_code 27 = .ok (.ireturn, 1) := by decide +kernel
theorem d_M_unsupported_0 : decode prog_5_method_11_code 0 = .ok (.aload_n 0, 1) := by decide +kernel
theorem d_M_unsupported_1 : decode prog_5_method_11_code 1 = .ok (.iload_n 2, 1) := by decide +kernel
theorem d_M_unsupported_2 : decode prog_5_method_11_code 2 = .ok (.putfield 41, 3) := by decide +kernel
theorem d_M_unsupported_5 : decode prog_5_method_11_code 5 = .ok (.iload_n 1, 1) := by decide +kernel
theorem d_M_unsupported_6 : decode prog_5_method_11_code 6 = .ok (.ireturn, 1) := by decide +kernel
theorem d_M_buy_0 : decode prog_5_method_18_code 0 = .ok (.aload_n 0, 1) := by decide +kernel
theorem d_M_buy_1 : decode prog_5_method_18_code 1 = .ok (.aload_n 0, 1) := by decide +kernel
theorem d_M_buy_2 : decode prog_5_method_18_code 2 = .ok (.iload_n 1, 1) := by decide +kernel
theorem d_M_buy_3 : decode prog_5_method_18_code 3 = .ok (.invokevirtual 63, 3) := by decide +kernel
theorem d_M_buy_6 : decode prog_5_method_18_code 6 = .ok (.ifCond .eq 7, 3) := by decide +kernel
theorem d_M_buy_9 : decode prog_5_method_18_code 9 = .ok (.iconst 0, 1) := by decide +kernel
theorem d_M_buy_10 : decode prog_5_method_18_code 10 = .ok (.goto 4, 3) := by decide +kernel
theorem d_M_buy_13 : decode prog_5_method_18_code 13 = .ok (.iconst 1, 1) := by decide +kernel
theorem d_M_buy_14 : decode prog_5_method_18_code 14 = .ok (.putfield 45, 3) := by decide +kernel
theorem d_M_buy_17 : decode prog_5_method_18_code 17 = .ok (.aload_n 0, 1) := by decide +kernel
theorem d_M_buy_18 : decode prog_5_method_18_code 18 = .ok (.getfield 45, 3) := by decide +kernel
theorem d_M_buy_21 : decode prog_5_method_18_code 21 = .ok (.ifCond .le 7, 3) := by decide +kernel
theorem d_M_buy_24 : decode prog_5_method_18_code 24 = .ok (.iconst 0, 1) := by decide +kernel
theorem d_M_buy_25 : decode prog_5_method_18_code 25 = .ok (.goto 10, 3) := by decide +kernel
theorem d_M_buy_28 : decode prog_5_method_18_code 28 = .ok (.aload_n 0, 1) := by decide +kernel
theorem d_M_buy_29 : decode prog_5_method_18_code 29 = .ok (.iload_n 1, 1) := by decide +kernel
theorem d_M_buy_30 : decode prog_5_method_18_code 30 = .ok (.iconst 1, 1) := by decide +kernel
theorem d_M_buy_31 : decode prog_5_method_18_code 31 = .ok (.iconst 2, 1) := by decide +kernel
theorem d_M_buy_32 : decode prog_5_method_18_code 32 = .ok (.invokevirtual 99, 3) := by decide +kernel
theorem d_M_buy_35 : decode prog_5_method_18_code 35 = .ok (.ireturn, 1) := by decide +kernel
theorem d_M_bought_0 : decode prog_5_method_17_code 0 = .ok (.aload_n 0, 1) := by decide +kernel
theorem d_M_bought_1 : decode prog_5_method_17_code 1 = .ok (.aload_n 0, 1) := by decide +kernel
theorem d_M_bought_2 : decode prog_5_method_17_code 2 = .ok (.iload_n 1, 1) := by decide +kernel
theorem d_M_bought_3 : decode prog_5_method_17_code 3 = .ok (.invokevirtual 67, 3) := by decide +kernel
theorem d_M_bought_6 : decode prog_5_method_17_code 6 = .ok (.ifCond .eq 7, 3) := by decide +kernel
theorem d_M_bought_9 : decode prog_5_method_17_code 9 = .ok (.iconst 0, 1) := by decide +kernel
theorem d_M_bought_10 : decode prog_5_method_17_code 10 = .ok (.goto 4, 3) := by decide +kernel
theorem d_M_bought_13 : decode prog_5_method_17_code 13 = .ok (.iload_n 3, 1) := by decide +kernel
theorem d_M_bought_14 : decode prog_5_method_17_code 14 = .ok (.putfield 45, 3) := by decide +kernel
theorem d_M_bought_17 : decode prog_5_method_17_code 17 = .ok (.aload_n 0, 1) := by decide +kernel
theorem d_M_bought_18 : decode prog_5_method_17_code 18 = .ok (.getfield 45, 3) := by decide +kernel
theorem d_M_bought_21 : decode prog_5_method_17_code 21 = .ok (.ifCond .le 5, 3) := by decide +kernel
theorem d_M_bought_24 : decode prog_5_method_17_code 24 = .ok (.iconst 0, 1) := by decide +kernel
theorem d_M_bought_25 : decode prog_5_method_17_code 25 = .ok (.ireturn, 1) := by decide +kernel
theorem d_M_bought_26 : decode prog_5_method_17_code 26 = .ok (.aload_n 0, 1) := by decide +kernel
theorem d_M_bought_27 : decode prog_5_method_17_code 27 = .ok (.getfield 38, 3) := by decide +kernel
theorem d_M_bought_30 : decode prog_5_method_17_code 30 = .ok (.iload_n 1, 1) := by decide +kernel
theorem d_M_bought_31 : decode prog_5_method_17_code 31 = .ok (.iaload, 1) := by decide +kernel
theorem d_M_bought_32 : decode prog_5_method_17_code 32 = .ok (.iload_n 2, 1) := by decide +kernel
theorem d_M_bought_33 : decode prog_5_method_17_code 33 = .ok (.if_icmp .ge 12, 3) := by decide +kernel
theorem d_M_bought_36 : decode prog_5_method_17_code 36 = .ok (.aload_n 0, 1) := by decide +kernel
theorem d_M_bought_37 : decode prog_5_method_17_code 37 = .ok (.getfield 38, 3) := by decide +kernel
theorem d_M_bought_40 : decode prog_5_method_17_code 40 = .ok (.iload_n 1, 1) := by decide +kernel
theorem d_M_bought_41 : decode prog_5_method_17_code 41 = .ok (.iaload, 1) := by decide +kernel
theorem d_M_bought_42 : decode prog_5_method_17_code 42 = .ok (.goto 4, 3) := by decide +kernel
theorem d_M_bought_45 : decode prog_5_method_17_code 45 = .ok (.iload_n 2, 1) := by decide +kernel
theorem d_M_bought_46 : decode prog_5_method_17_code 46 = .ok (.istore 4, 2) := by decide +kernel
theorem d_M_bought_48 : decode prog_5_method_17_code 48 = .ok (.aload_n 0, 1) := by decide +kernel
theorem d_M_bought_49 : decode prog_5_method_17_code 49 = .ok (.iload_n 1, 1) := by decide +kernel
theorem d_M_bought_50 : decode prog_5_method_17_code 50 = .ok (.iload_n 2, 1) := by decide +kernel
theorem d_M_bought_51 : decode prog_5_method_17_code 51 = .ok (.iload 4, 2) := by decide +kernel
theorem d_M_bought_53 : decode prog_5_method_17_code 53 = .ok (.isub, 1) := by decide +kernel
theorem d_M_bought_54 : decode prog_5_method_17_code 54 = .ok (.invokevirtual 83, 3) := by decide +kernel
theorem d_M_bought_57 : decode prog_5_method_17_code 57 = .ok (.istore 5, 2) := by decide +kernel
theorem d_M_bought_59 : decode prog_5_method_17_code 59 = .ok (.aload_n 0, 1) := by decide +kernel
theorem d_M_bought_60 : decode prog_5_method_17_code 60 = .ok (.iload_n 2, 1) := by decide +kernel
theorem d_M_bought_61 : decode prog_5_method_17_code 61 = .ok (.invokevirtual 86, 3) := by decide +kernel
theorem d_M_bought_64 : decode prog_5_method_17_code 64 = .ok (.istore 6, 2) := by decide +kernel
theorem d_M_bought_66 : decode prog_5_method_17_code 66 = .ok (.iload 4, 2) := by decide +kernel
theorem d_M_bought_68 : decode prog_5_method_17_code 68 = .ok (.iload_n 2, 1) := by decide +kernel
theorem d_M_bought_69 : decode prog_5_method_17_code 69 = .ok (.if_icmp .ge 8, 3) := by decide +kernel
theorem d_M_bought_72 : decode prog_5_method_17_code 72 = .ok (.iload 5, 2) := by decide +kernel
theorem d_M_bought_74 : decode prog_5_method_17_code 74 = .ok (.ifCond .ge 8, 3) := by decide +kernel
theorem d_M_bought_77 : decode prog_5_method_17_code 77 = .ok (.iload 6, 2) := by decide +kernel
theorem d_M_bought_79 : decode prog_5_method_17_code 79 = .ok (.ifCond .ge 28, 3) := by decide +kernel
theorem d_M_bought_82 : decode prog_5_method_17_code 82 = .ok (.aload_n 0, 1) := by decide +kernel
theorem d_M_bought_83 : decode prog_5_method_17_code 83 = .ok (.aload_n 0, 1) := by decide +kernel
theorem d_M_bought_84 : decode prog_5_method_17_code 84 = .ok (.iload_n 3, 1) := by decide +kernel
theorem d_M_bought_85 : decode prog_5_method_17_code 85 = .ok (.iconst 1, 1) := by decide +kernel
theorem d_M_bought_86 : decode prog_5_method_17_code 86 = .ok (.iadd, 1) := by decide +kernel
theorem d_M_bought_87 : decode prog_5_method_17_code 87 = .ok (.iload 4, 2) := by decide +kernel
theorem d_M_bought_89 : decode prog_5_method_17_code 89 = .ok (.iload_n 2, 1) := by decide +kernel
theorem d_M_bought_90 : decode prog_5_method_17_code 90 = .ok (.if_icmp .ge 8, 3) := by decide +kernel
theorem d_M_bought_93 : decode prog_5_method_17_code 93 = .ok (.iload 5, 2) := by decide +kernel
theorem d_M_bought_95 : decode prog_5_method_17_code 95 = .ok (.goto 4, 3) := by decide +kernel
theorem d_M_bought_98 : decode prog_5_method_17_code 98 = .ok (.iconst (-1), 1) := by decide +kernel
theorem d_M_bought_99 : decode prog_5_method_17_code 99 = .ok (.invokevirtual 73, 3) := by decide +kernel
theorem d_M_bought_102 : decode prog_5_method_17_code 102 = .ok (.putfield 45, 3) := by decide +kernel
theorem d_M_bought_105 : decode prog_5_method_17_code 105 = .ok (.iconst 0, 1) := by decide +kernel
theorem d_M_bought_106 : decode prog_5_method_17_code 106 = .ok (.ireturn, 1) := by decide +kernel
theorem d_M_bought_107 : decode prog_5_method_17_code 107 = .ok (.aload_n 0, 1) := by decide +kernel
theorem d_M_bought_108 : decode prog_5_method_17_code 108 = .ok (.getfield 38, 3) := by decide +kernel
theorem d_M_bought_111 : decode prog_5_method_17_code 111 = .ok (.iload_n 1, 1) := by decide +kernel
theorem d_M_bought_112 : decode prog_5_method_17_code 112 = .ok (.dup2, 1) := by decide +kernel
theorem d_M_bought_113 : decode prog_5_method_17_code 113 = .ok (.iaload, 1) := by decide +kernel
theorem d_M_bought_114 : decode prog_5_method_17_code 114 = .ok (.iload 4, 2) := by decide +kernel
theorem d_M_bought_116 : decode prog_5_method_17_code 116 = .ok (.isub, 1) := by decide +kernel
theorem d_M_bought_117 : decode prog_5_method_17_code 117 = .ok (.iastore, 1) := by decide +kernel
theorem d_M_bought_118 : decode prog_5_method_17_code 118 = .ok (.iload 6, 2) := by decide +kernel
theorem d_M_bought_120 : decode prog_5_method_17_code 120 = .ok (.istore 7, 2) := by decide +kernel
theorem d_M_bought_122 : decode prog_5_method_17_code 122 = .ok (.iload 7, 2) := by decide +kernel
theorem d_M_bought_124 : decode prog_5_method_17_code 124 = .ok (.iload 6, 2) := by decide +kernel
theorem d_M_bought_126 : decode prog_5_method_17_code 126 = .ok (.iload_n 2, 1) := by decide +kernel
theorem d_M_bought_127 : decode prog_5_method_17_code 127 = .ok (.iadd, 1) := by decide +kernel
theorem d_M_bought_128 : decode prog_5_method_17_code 128 = .ok (.if_icmp .ge 66, 3) := by decide +kernel
theorem d_M_bought_131 : decode prog_5_method_17_code 131 = .ok (.aload_n 0, 1) := by decide +kernel
theorem d_M_bought_132 : decode prog_5_method_17_code 132 = .ok (.getfield 13, 3) := by decide +kernel
theorem d_M_bought_135 : decode prog_5_method_17_code 135 = .ok (.iload 7, 2) := by decide +kernel
theorem d_M_bought_137 : decode prog_5_method_17_code 137 = .ok (.dup2, 1) := by decide +kernel
theorem d_M_bought_138 : decode prog_5_method_17_code 138 = .ok (.iaload, 1) := by decide +kernel
theorem d_M_bought_139 : decode prog_5_method_17_code 139 = .ok (.iconst 1, 1) := by decide +kernel
theorem d_M_bought_140 : decode prog_5_method_17_code 140 = .ok (.iadd, 1) := by decide +kernel
theorem d_M_bought_141 : decode prog_5_method_17_code 141 = .ok (.iastore, 1) := by decide +kernel
theorem d_M_bought_142 : decode prog_5_method_17_code 142 = .ok (.aload_n 0, 1) := by decide +kernel
theorem d_M_bought_143 : decode prog_5_method_17_code 143 = .ok (.getfield 16, 3) := by decide +kernel
theorem d_M_bought_146 : decode prog_5_method_17_code 146 = .ok (.iload 7, 2) := by decide +kernel
theorem d_M_bought_148 : decode prog_5_method_17_code 148 = .ok (.aload_n 0, 1) := by decide +kernel
theorem d_M_bought_149 : decode prog_5_method_17_code 149 = .ok (.getfield 89, 3) := by decide +kernel
theorem d_M_bought_152 : decode prog_5_method_17_code 152 = .ok (.iastore, 1) := by decide +kernel
theorem d_M_bought_153 : decode prog_5_method_17_code 153 = .ok (.aload_n 0, 1) := by decide +kernel
theorem d_M_bought_154 : decode prog_5_method_17_code 154 = .ok (.iload 7, 2) := by decide +kernel
theorem d_M_bought_156 : decode prog_5_method_17_code 156 = .ok (.iload_n 1, 1) := by decide +kernel
theorem d_M_bought_157 : decode prog_5_method_17_code 157 = .ok (.invokevirtual 92, 3) := by decide +kernel
theorem d_M_bought_160 : decode prog_5_method_17_code 160 = .ok (.iconst 0, 1) := by decide +kernel
theorem d_M_bought_161 : decode prog_5_method_17_code 161 = .ok (.istore 8, 2) := by decide +kernel
theorem d_M_bought_163 : decode prog_5_method_17_code 163 = .ok (.iload 8, 2) := by decide +kernel
theorem d_M_bought_165 : decode prog_5_method_17_code 165 = .ok (.iconst 4, 1) := by decide +kernel
theorem d_M_bought_166 : decode prog_5_method_17_code 166 = .ok (.if_icmp .ge 22, 3) := by decide +kernel
theorem d_M_bought_169 : decode prog_5_method_17_code 169 = .ok (.aload_n 0, 1) := by decide +kernel
theorem d_M_bought_170 : decode prog_5_method_17_code 170 = .ok (.getfield 22, 3) := by decide +kernel
theorem d_M_bought_173 : decode prog_5_method_17_code 173 = .ok (.iconst 4, 1) := by decide +kernel
theorem d_M_bought_174 : decode prog_5_method_17_code 174 = .ok (.iload 7, 2) := by decide +kernel
theorem d_M_bought_176 : decode prog_5_method_17_code 176 = .ok (.imul, 1) := by decide +kernel
theorem d_M_bought_177 : decode prog_5_method_17_code 177 = .ok (.iload 8, 2) := by decide +kernel
theorem d_M_bought_179 : decode prog_5_method_17_code 179 = .ok (.iadd, 1) := by decide +kernel
theorem d_M_bought_180 : decode prog_5_method_17_code 180 = .ok (.iconst 0, 1) := by decide +kernel
theorem d_M_bought_181 : decode prog_5_method_17_code 181 = .ok (.iastore, 1) := by decide +kernel
theorem d_M_bought_182 : decode prog_5_method_17_code 182 = .ok (.iinc 8 1, 3) := by decide +kernel
theorem d_M_bought_185 : decode prog_5_method_17_code 185 = .ok (.goto (-22), 3) := by decide +kernel
theorem d_M_bought_188 : decode prog_5_method_17_code 188 = .ok (.iinc 7 1, 3) := by decide +kernel
theorem d_M_bought_191 : decode prog_5_method_17_code 191 = .ok (.goto (-69), 3) := by decide +kernel
theorem d_M_bought_194 : decode prog_5_method_17_code 194 = .ok (.aload_n 0, 1) := by decide +kernel
theorem d_M_bought_195 : decode prog_5_method_17_code 195 = .ok (.dup, 1) := by decide +kernel
theorem d_M_bought_196 : decode prog_5_method_17_code 196 = .ok (.getfield 89, 3) := by decide +kernel
theorem d_M_bought_199 : decode prog_5_method_17_code 199 = .ok (.iconst 1, 1) := by decide +kernel
theorem d_M_bought_200 : decode prog_5_method_17_code 200 = .ok (.iadd, 1) := by decide +kernel
theorem d_M_bought_201 : decode prog_5_method_17_code 201 = .ok (.putfield 89, 3) := by decide +kernel
theorem d_M_bought_204 : decode prog_5_method_17_code 204 = .ok (.aload_n 0, 1) := by decide +kernel
theorem d_M_bought_205 : decode prog_5_method_17_code 205 = .ok (.getfield 13, 3) := by decide +kernel
theorem d_M_bought_208 : decode prog_5_method_17_code 208 = .ok (.iload 6, 2) := by decide +kernel
theorem d_M_bought_210 : decode prog_5_method_17_code 210 = .ok (.iaload, 1) := by decide +kernel
theorem d_M_bought_211 : decode prog_5_method_17_code 211 = .ok (.iload 6, 2) := by decide +kernel
theorem d_M_bought_213 : decode prog_5_method_17_code 213 = .ok (.invokestatic 96, 3) := by decide +kernel
theorem d_M_bought_216 : decode prog_5_method_17_code 216 = .ok (.ireturn, 1) := by decide +kernel
theorem d_M_refuser_0 : decode prog_5_method_9_code 0 = .ok (.iload_n 1, 1) := by decide +kernel
theorem d_M_refuser_1 : decode prog_5_method_9_code 1 = .ok (.istore_n 3, 1) := by decide +kernel
theorem d_M_refuser_2 : decode prog_5_method_9_code 2 = .ok (.iload_n 3, 1) := by decide +kernel
theorem d_M_refuser_3 : decode prog_5_method_9_code 3 = .ok (.ifCond .lt 31, 3) := by decide +kernel
theorem d_M_refuser_6 : decode prog_5_method_9_code 6 = .ok (.aload_n 0, 1) := by decide +kernel
theorem d_M_refuser_7 : decode prog_5_method_9_code 7 = .ok (.iload_n 3, 1) := by decide +kernel
theorem d_M_refuser_8 : decode prog_5_method_9_code 8 = .ok (.invokevirtual 60, 3) := by decide +kernel
theorem d_M_refuser_11 : decode prog_5_method_9_code 11 = .ok (.iload_n 2, 1) := by decide +kernel
theorem d_M_refuser_12 : decode prog_5_method_9_code 12 = .ok (.iadd, 1) := by decide +kernel
theorem d_M_refuser_13 : decode prog_5_method_9_code 13 = .ok (.aload_n 0, 1) := by decide +kernel
theorem d_M_refuser_14 : decode prog_5_method_9_code 14 = .ok (.getfield 32, 3) := by decide +kernel
theorem d_M_refuser_17 : decode prog_5_method_9_code 17 = .ok (.iload_n 3, 1) := by decide +kernel
theorem d_M_refuser_18 : decode prog_5_method_9_code 18 = .ok (.iaload, 1) := by decide +kernel
theorem d_M_refuser_19 : decode prog_5_method_9_code 19 = .ok (.if_icmp .le 5, 3) := by decide +kernel
theorem d_M_refuser_22 : decode prog_5_method_9_code 22 = .ok (.iload_n 3, 1) := by decide +kernel
theorem d_M_refuser_23 : decode prog_5_method_9_code 23 = .ok (.ireturn, 1) := by decide +kernel
theorem d_M_refuser_24 : decode prog_5_method_9_code 24 = .ok (.aload_n 0, 1) := by decide +kernel
theorem d_M_refuser_25 : decode prog_5_method_9_code 25 = .ok (.getfield 29, 3) := by decide +kernel
theorem d_M_refuser_28 : decode prog_5_method_9_code 28 = .ok (.iload_n 3, 1) := by decide +kernel
theorem d_M_refuser_29 : decode prog_5_method_9_code 29 = .ok (.iaload, 1) := by decide +kernel
theorem d_M_refuser_30 : decode prog_5_method_9_code 30 = .ok (.istore_n 3, 1) := by decide +kernel
theorem d_M_refuser_31 : decode prog_5_method_9_code 31 = .ok (.goto (-29), 3) := by decide +kernel
theorem d_M_refuser_34 : decode prog_5_method_9_code 34 = .ok (.iconst (-1), 1) := by decide +kernel
theorem d_M_refuser_35 : decode prog_5_method_9_code 35 = .ok (.ireturn, 1) := by decide +kernel
theorem d_M_useOf_0 : decode prog_5_method_8_code 0 = .ok (.iconst 0, 1) := by decide +kernel
theorem d_M_useOf_1 : decode prog_5_method_8_code 1 = .ok (.istore_n 2, 1) := by decide +kernel
theorem d_M_useOf_2 : decode prog_5_method_8_code 2 = .ok (.iconst 0, 1) := by decide +kernel
theorem d_M_useOf_3 : decode prog_5_method_8_code 3 = .ok (.istore_n 3, 1) := by decide +kernel
theorem d_M_useOf_4 : decode prog_5_method_8_code 4 = .ok (.iload_n 3, 1) := by decide +kernel
theorem d_M_useOf_5 : decode prog_5_method_8_code 5 = .ok (.bipush 40, 2) := by decide +kernel
theorem d_M_useOf_7 : decode prog_5_method_8_code 7 = .ok (.if_icmp .ge 46, 3) := by decide +kernel
theorem d_M_useOf_10 : decode prog_5_method_8_code 10 = .ok (.iload_n 2, 1) := by decide +kernel
theorem d_M_useOf_11 : decode prog_5_method_8_code 11 = .ok (.aload_n 0, 1) := by decide +kernel
theorem d_M_useOf_12 : decode prog_5_method_8_code 12 = .ok (.getfield 25, 3) := by decide +kernel
theorem d_M_useOf_15 : decode prog_5_method_8_code 15 = .ok (.iload_n 3, 1) := by decide +kernel
theorem d_M_useOf_16 : decode prog_5_method_8_code 16 = .ok (.baload, 1) := by decide +kernel
theorem d_M_useOf_17 : decode prog_5_method_8_code 17 = .ok (.ifCond .eq 27, 3) := by decide +kernel
theorem d_M_useOf_20 : decode prog_5_method_8_code 20 = .ok (.aload_n 0, 1) := by decide +kernel
theorem d_M_useOf_21 : decode prog_5_method_8_code 21 = .ok (.iload_n 3, 1) := by decide +kernel
theorem d_M_useOf_22 : decode prog_5_method_8_code 22 = .ok (.iload_n 1, 1) := by decide +kernel
theorem d_M_useOf_23 : decode prog_5_method_8_code 23 = .ok (.invokevirtual 52, 3) := by decide +kernel
theorem d_M_useOf_26 : decode prog_5_method_8_code 26 = .ok (.ifCond .eq 18, 3) := by decide +kernel
theorem d_M_useOf_29 : decode prog_5_method_8_code 29 = .ok (.aload_n 0, 1) := by decide +kernel
theorem d_M_useOf_30 : decode prog_5_method_8_code 30 = .ok (.iload_n 3, 1) := by decide +kernel
theorem d_M_useOf_31 : decode prog_5_method_8_code 31 = .ok (.invokevirtual 56, 3) := by decide +kernel
theorem d_M_useOf_34 : decode prog_5_method_8_code 34 = .ok (.aload_n 0, 1) := by decide +kernel
theorem d_M_useOf_35 : decode prog_5_method_8_code 35 = .ok (.getfield 38, 3) := by decide +kernel
theorem d_M_useOf_38 : decode prog_5_method_8_code 38 = .ok (.iload_n 3, 1) := by decide +kernel
theorem d_M_useOf_39 : decode prog_5_method_8_code 39 = .ok (.iaload, 1) := by decide +kernel
theorem d_M_useOf_40 : decode prog_5_method_8_code 40 = .ok (.iadd, 1) := by decide +kernel
theorem d_M_useOf_41 : decode prog_5_method_8_code 41 = .ok (.goto 4, 3) := by decide +kernel
theorem d_M_useOf_44 : decode prog_5_method_8_code 44 = .ok (.iconst 0, 1) := by decide +kernel
theorem d_M_useOf_45 : decode prog_5_method_8_code 45 = .ok (.iadd, 1) := by decide +kernel
theorem d_M_useOf_46 : decode prog_5_method_8_code 46 = .ok (.istore_n 2, 1) := by decide +kernel
theorem d_M_useOf_47 : decode prog_5_method_8_code 47 = .ok (.iinc 3 1, 3) := by decide +kernel
theorem d_M_useOf_50 : decode prog_5_method_8_code 50 = .ok (.goto (-46), 3) := by decide +kernel
theorem d_M_useOf_53 : decode prog_5_method_8_code 53 = .ok (.iload_n 2, 1) := by decide +kernel
theorem d_M_useOf_54 : decode prog_5_method_8_code 54 = .ok (.ireturn, 1) := by decide +kernel
theorem d_M_isUnder_0 : decode prog_5_method_5_code 0 = .ok (.iload_n 1, 1) := by decide +kernel
theorem d_M_isUnder_1 : decode prog_5_method_5_code 1 = .ok (.istore_n 3, 1) := by decide +kernel
theorem d_M_isUnder_2 : decode prog_5_method_5_code 2 = .ok (.iload_n 3, 1) := by decide +kernel
theorem d_M_isUnder_3 : decode prog_5_method_5_code 3 = .ok (.ifCond .lt 18, 3) := by decide +kernel
theorem d_M_isUnder_6 : decode prog_5_method_5_code 6 = .ok (.iload_n 3, 1) := by decide +kernel
theorem d_M_isUnder_7 : decode prog_5_method_5_code 7 = .ok (.iload_n 2, 1) := by decide +kernel
theorem d_M_isUnder_8 : decode prog_5_method_5_code 8 = .ok (.if_icmp .eq 13, 3) := by decide +kernel
theorem d_M_isUnder_11 : decode prog_5_method_5_code 11 = .ok (.aload_n 0, 1) := by decide +kernel
theorem d_M_isUnder_12 : decode prog_5_method_5_code 12 = .ok (.getfield 29, 3) := by decide +kernel
theorem d_M_isUnder_15 : decode prog_5_method_5_code 15 = .ok (.iload_n 3, 1) := by decide +kernel
theorem d_M_isUnder_16 : decode prog_5_method_5_code 16 = .ok (.iaload, 1) := by decide +kernel
theorem d_M_isUnder_17 : decode prog_5_method_5_code 17 = .ok (.istore_n 3, 1) := by decide +kernel
theorem d_M_isUnder_18 : decode prog_5_method_5_code 18 = .ok (.goto (-16), 3) := by decide +kernel
theorem d_M_isUnder_21 : decode prog_5_method_5_code 21 = .ok (.iload_n 3, 1) := by decide +kernel
theorem d_M_isUnder_22 : decode prog_5_method_5_code 22 = .ok (.iload_n 2, 1) := by decide +kernel
theorem d_M_isUnder_23 : decode prog_5_method_5_code 23 = .ok (.if_icmp .ne 7, 3) := by decide +kernel
theorem d_M_isUnder_26 : decode prog_5_method_5_code 26 = .ok (.iconst 1, 1) := by decide +kernel
theorem d_M_isUnder_27 : decode prog_5_method_5_code 27 = .ok (.goto 4, 3) := by decide +kernel
theorem d_M_isUnder_30 : decode prog_5_method_5_code 30 = .ok (.iconst 0, 1) := by decide +kernel
theorem d_M_isUnder_31 : decode prog_5_method_5_code 31 = .ok (.ireturn, 1) := by decide +kernel
theorem d_M_owned_0 : decode prog_5_method_7_code 0 = .ok (.iconst 0, 1) := by decide +kernel
theorem d_M_owned_1 : decode prog_5_method_7_code 1 = .ok (.istore_n 2, 1) := by decide +kernel
theorem d_M_owned_2 : decode prog_5_method_7_code 2 = .ok (.iconst 0, 1) := by decide +kernel
theorem d_M_owned_3 : decode prog_5_method_7_code 3 = .ok (.istore_n 3, 1) := by decide +kernel
theorem d_M_owned_4 : decode prog_5_method_7_code 4 = .ok (.iload_n 3, 1) := by decide +kernel
theorem d_M_owned_5 : decode prog_5_method_7_code 5 = .ok (.sipush 192, 3) := by decide +kernel
theorem d_M_owned_8 : decode prog_5_method_7_code 8 = .ok (.if_icmp .ge 27, 3) := by decide +kernel
theorem d_M_owned_11 : decode prog_5_method_7_code 11 = .ok (.iload_n 2, 1) := by decide +kernel
theorem d_M_owned_12 : decode prog_5_method_7_code 12 = .ok (.aload_n 0, 1) := by decide +kernel
theorem d_M_owned_13 : decode prog_5_method_7_code 13 = .ok (.getfield 7, 3) := by decide +kernel
theorem d_M_owned_16 : decode prog_5_method_7_code 16 = .ok (.iload_n 3, 1) := by decide +kernel
theorem d_M_owned_17 : decode prog_5_method_7_code 17 = .ok (.iaload, 1) := by decide +kernel
theorem d_M_owned_18 : decode prog_5_method_7_code 18 = .ok (.iload_n 1, 1) := by decide +kernel
theorem d_M_owned_19 : decode prog_5_method_7_code 19 = .ok (.if_icmp .ne 7, 3) := by decide +kernel
