theorem d_M_placeOfPage_10 : decode prog_5_method_40_code 10 = .ok (.if_icmp .ge 102, 3) := by decide +kernel
theorem d_M_placeOfPage_13 : decode prog_5_method_40_code 13 = .ok (.iconst 0, 1) := by decide +kernel
theorem d_M_placeOfPage_14 : decode prog_5_method_40_code 14 = .ok (.istore 5, 2) := by decide +kernel
theorem d_M_placeOfPage_16 : decode prog_5_method_40_code 16 = .ok (.iconst 0, 1) := by decide +kernel
theorem d_M_placeOfPage_17 : decode prog_5_method_40_code 17 = .ok (.istore 6, 2) := by decide +kernel
theorem d_M_placeOfPage_19 : decode prog_5_method_40_code 19 = .ok (.iload 6, 2) := by decide +kernel
theorem d_M_placeOfPage_21 : decode prog_5_method_40_code 21 = .ok (.sipush 192, 3) := by decide +kernel
theorem d_M_placeOfPage_24 : decode prog_5_method_40_code 24 = .ok (.if_icmp .ge 58, 3) := by decide +kernel
theorem d_M_placeOfPage_27 : decode prog_5_method_40_code 27 = .ok (.iload 5, 2) := by decide +kernel
theorem d_M_placeOfPage_29 : decode prog_5_method_40_code 29 = .ok (.aload_n 0, 1) := by decide +kernel
theorem d_M_placeOfPage_30 : decode prog_5_method_40_code 30 = .ok (.getfield 7, 3) := by decide +kernel
theorem d_M_placeOfPage_33 : decode prog_5_method_40_code 33 = .ok (.iload 4, 2) := by decide +kernel
theorem d_M_placeOfPage_35 : decode prog_5_method_40_code 35 = .ok (.iaload, 1) := by decide +kernel
theorem d_M_placeOfPage_36 : decode prog_5_method_40_code 36 = .ok (.iload_n 1, 1) := by decide +kernel
theorem d_M_placeOfPage_37 : decode prog_5_method_40_code 37 = .ok (.if_icmp .ne 35, 3) := by decide +kernel
theorem d_M_placeOfPage_40 : decode prog_5_method_40_code 40 = .ok (.aload_n 0, 1) := by decide +kernel
theorem d_M_placeOfPage_41 : decode prog_5_method_40_code 41 = .ok (.getfield 7, 3) := by decide +kernel
theorem d_M_placeOfPage_44 : decode prog_5_method_40_code 44 = .ok (.iload 6, 2) := by decide +kernel
theorem d_M_placeOfPage_46 : decode prog_5_method_40_code 46 = .ok (.iaload, 1) := by decide +kernel
theorem d_M_placeOfPage_47 : decode prog_5_method_40_code 47 = .ok (.iload_n 1, 1) := by decide +kernel
theorem d_M_placeOfPage_48 : decode prog_5_method_40_code 48 = .ok (.if_icmp .ne 24, 3) := by decide +kernel
theorem d_M_placeOfPage_51 : decode prog_5_method_40_code 51 = .ok (.aload_n 0, 1) := by decide +kernel
theorem d_M_placeOfPage_52 : decode prog_5_method_40_code 52 = .ok (.getfield 19, 3) := by decide +kernel
theorem d_M_placeOfPage_55 : decode prog_5_method_40_code 55 = .ok (.iload 6, 2) := by decide +kernel
theorem d_M_placeOfPage_57 : decode prog_5_method_40_code 57 = .ok (.iaload, 1) := by decide +kernel
theorem d_M_placeOfPage_58 : decode prog_5_method_40_code 58 = .ok (.aload_n 0, 1) := by decide +kernel
theorem d_M_placeOfPage_59 : decode prog_5_method_40_code 59 = .ok (.getfield 19, 3) := by decide +kernel
theorem d_M_placeOfPage_62 : decode prog_5_method_40_code 62 = .ok (.iload 4, 2) := by decide +kernel
theorem d_M_placeOfPage_64 : decode prog_5_method_40_code 64 = .ok (.iaload, 1) := by decide +kernel
theorem d_M_placeOfPage_65 : decode prog_5_method_40_code 65 = .ok (.if_icmp .ge 7, 3) := by decide +kernel
theorem d_M_placeOfPage_68 : decode prog_5_method_40_code 68 = .ok (.iconst 1, 1) := by decide +kernel
theorem d_M_placeOfPage_69 : decode prog_5_method_40_code 69 = .ok (.goto 4, 3) := by decide +kernel
theorem d_M_placeOfPage_72 : decode prog_5_method_40_code 72 = .ok (.iconst 0, 1) := by decide +kernel
theorem d_M_placeOfPage_73 : decode prog_5_method_40_code 73 = .ok (.iadd, 1) := by decide +kernel
theorem d_M_placeOfPage_74 : decode prog_5_method_40_code 74 = .ok (.istore 5, 2) := by decide +kernel
theorem d_M_placeOfPage_76 : decode prog_5_method_40_code 76 = .ok (.iinc 6 1, 3) := by decide +kernel
theorem d_M_placeOfPage_79 : decode prog_5_method_40_code 79 = .ok (.goto (-60), 3) := by decide +kernel
theorem d_M_placeOfPage_82 : decode prog_5_method_40_code 82 = .ok (.aload_n 0, 1) := by decide +kernel
theorem d_M_placeOfPage_83 : decode prog_5_method_40_code 83 = .ok (.getfield 7, 3) := by decide +kernel
theorem d_M_placeOfPage_86 : decode prog_5_method_40_code 86 = .ok (.iload 4, 2) := by decide +kernel
theorem d_M_placeOfPage_88 : decode prog_5_method_40_code 88 = .ok (.iaload, 1) := by decide +kernel
theorem d_M_placeOfPage_89 : decode prog_5_method_40_code 89 = .ok (.iload_n 1, 1) := by decide +kernel
theorem d_M_placeOfPage_90 : decode prog_5_method_40_code 90 = .ok (.if_icmp .ne 14, 3) := by decide +kernel
theorem d_M_placeOfPage_93 : decode prog_5_method_40_code 93 = .ok (.iload 5, 2) := by decide +kernel
theorem d_M_placeOfPage_95 : decode prog_5_method_40_code 95 = .ok (.iload_n 2, 1) := by decide +kernel
theorem d_M_placeOfPage_96 : decode prog_5_method_40_code 96 = .ok (.if_icmp .ne 8, 3) := by decide +kernel
theorem d_M_placeOfPage_99 : decode prog_5_method_40_code 99 = .ok (.iload 4, 2) := by decide +kernel
theorem d_M_placeOfPage_101 : decode prog_5_method_40_code 101 = .ok (.goto 4, 3) := by decide +kernel
theorem d_M_placeOfPage_104 : decode prog_5_method_40_code 104 = .ok (.iload_n 3, 1) := by decide +kernel
theorem d_M_placeOfPage_105 : decode prog_5_method_40_code 105 = .ok (.istore_n 3, 1) := by decide +kernel
theorem d_M_placeOfPage_106 : decode prog_5_method_40_code 106 = .ok (.iinc 4 1, 3) := by decide +kernel
theorem d_M_placeOfPage_109 : decode prog_5_method_40_code 109 = .ok (.goto (-104), 3) := by decide +kernel
theorem d_M_placeOfPage_112 : decode prog_5_method_40_code 112 = .ok (.iload_n 3, 1) := by decide +kernel
theorem d_M_placeOfPage_113 : decode prog_5_method_40_code 113 = .ok (.ireturn, 1) := by decide +kernel
theorem d_M_told_0 : decode prog_5_method_43_code 0 = .ok (.aload_n 0, 1) := by decide +kernel
theorem d_M_told_1 : decode prog_5_method_43_code 1 = .ok (.aload_n 0, 1) := by decide +kernel
theorem d_M_told_2 : decode prog_5_method_43_code 2 = .ok (.iload_n 1, 1) := by decide +kernel
theorem d_M_told_3 : decode prog_5_method_43_code 3 = .ok (.invokevirtual 63, 3) := by decide +kernel
theorem d_M_told_6 : decode prog_5_method_43_code 6 = .ok (.ifCond .ne 7, 3) := by decide +kernel
theorem d_M_told_9 : decode prog_5_method_43_code 9 = .ok (.iconst 1, 1) := by decide +kernel
theorem d_M_told_10 : decode prog_5_method_43_code 10 = .ok (.goto 18, 3) := by decide +kernel
theorem d_M_told_13 : decode prog_5_method_43_code 13 = .ok (.iload_n 2, 1) := by decide +kernel
theorem d_M_told_14 : decode prog_5_method_43_code 14 = .ok (.iconst 0, 1) := by decide +kernel
theorem d_M_told_15 : decode prog_5_method_43_code 15 = .ok (.bipush 7, 2) := by decide +kernel
theorem d_M_told_17 : decode prog_5_method_43_code 17 = .ok (.invokestatic 48, 3) := by decide +kernel
theorem d_M_told_20 : decode prog_5_method_43_code 20 = .ok (.ifCond .eq 7, 3) := by decide +kernel
theorem d_M_told_23 : decode prog_5_method_43_code 23 = .ok (.iconst 0, 1) := by decide +kernel
theorem d_M_told_24 : decode prog_5_method_43_code 24 = .ok (.goto 4, 3) := by decide +kernel
theorem d_M_told_27 : decode prog_5_method_43_code 27 = .ok (.iconst 2, 1) := by decide +kernel
theorem d_M_told_28 : decode prog_5_method_43_code 28 = .ok (.putfield 45, 3) := by decide +kernel
theorem d_M_told_31 : decode prog_5_method_43_code 31 = .ok (.aload_n 0, 1) := by decide +kernel
theorem d_M_told_32 : decode prog_5_method_43_code 32 = .ok (.getfield 45, 3) := by decide +kernel
theorem d_M_told_35 : decode prog_5_method_43_code 35 = .ok (.ifCond .le 5, 3) := by decide +kernel
theorem d_M_told_38 : decode prog_5_method_43_code 38 = .ok (.iconst 0, 1) := by decide +kernel
theorem d_M_told_39 : decode prog_5_method_43_code 39 = .ok (.ireturn, 1) := by decide +kernel
theorem d_M_told_40 : decode prog_5_method_43_code 40 = .ok (.iload_n 2, 1) := by decide +kernel
theorem d_M_told_41 : decode prog_5_method_43_code 41 = .ok (.tableswitch 89 0 6 #[43, 49, 55, 62, 69, 76, 82], 43) := by decide +kernel
theorem d_M_told_84 : decode prog_5_method_43_code 84 = .ok (.aload_n 0, 1) := by decide +kernel
theorem d_M_told_85 : decode prog_5_method_43_code 85 = .ok (.iload_n 1, 1) := by decide +kernel
theorem d_M_told_86 : decode prog_5_method_43_code 86 = .ok (.invokevirtual 60, 3) := by decide +kernel
theorem d_M_told_89 : decode prog_5_method_43_code 89 = .ok (.ireturn, 1) := by decide +kernel
theorem d_M_told_90 : decode prog_5_method_43_code 90 = .ok (.aload_n 0, 1) := by decide +kernel
theorem d_M_told_91 : decode prog_5_method_43_code 91 = .ok (.iload_n 1, 1) := by decide +kernel
theorem d_M_told_92 : decode prog_5_method_43_code 92 = .ok (.invokevirtual 56, 3) := by decide +kernel
theorem d_M_told_95 : decode prog_5_method_43_code 95 = .ok (.ireturn, 1) := by decide +kernel
theorem d_M_told_96 : decode prog_5_method_43_code 96 = .ok (.aload_n 0, 1) := by decide +kernel
theorem d_M_told_97 : decode prog_5_method_43_code 97 = .ok (.getfield 38, 3) := by decide +kernel
theorem d_M_told_100 : decode prog_5_method_43_code 100 = .ok (.iload_n 1, 1) := by decide +kernel
theorem d_M_told_101 : decode prog_5_method_43_code 101 = .ok (.iaload, 1) := by decide +kernel
theorem d_M_told_102 : decode prog_5_method_43_code 102 = .ok (.ireturn, 1) := by decide +kernel
theorem d_M_told_103 : decode prog_5_method_43_code 103 = .ok (.aload_n 0, 1) := by decide +kernel
theorem d_M_told_104 : decode prog_5_method_43_code 104 = .ok (.getfield 32, 3) := by decide +kernel
theorem d_M_told_107 : decode prog_5_method_43_code 107 = .ok (.iload_n 1, 1) := by decide +kernel
theorem d_M_told_108 : decode prog_5_method_43_code 108 = .ok (.iaload, 1) := by decide +kernel
theorem d_M_told_109 : decode prog_5_method_43_code 109 = .ok (.ireturn, 1) := by decide +kernel
theorem d_M_told_110 : decode prog_5_method_43_code 110 = .ok (.aload_n 0, 1) := by decide +kernel
theorem d_M_told_111 : decode prog_5_method_43_code 111 = .ok (.getfield 29, 3) := by decide +kernel
theorem d_M_told_114 : decode prog_5_method_43_code 114 = .ok (.iload_n 1, 1) := by decide +kernel
theorem d_M_told_115 : decode prog_5_method_43_code 115 = .ok (.iaload, 1) := by decide +kernel
theorem d_M_told_116 : decode prog_5_method_43_code 116 = .ok (.ireturn, 1) := by decide +kernel
theorem d_M_told_117 : decode prog_5_method_43_code 117 = .ok (.aload_n 0, 1) := by decide +kernel
theorem d_M_told_118 : decode prog_5_method_43_code 118 = .ok (.iload_n 1, 1) := by decide +kernel
theorem d_M_told_119 : decode prog_5_method_43_code 119 = .ok (.invokevirtual 70, 3) := by decide +kernel
theorem d_M_told_122 : decode prog_5_method_43_code 122 = .ok (.ireturn, 1) := by decide +kernel
theorem d_M_told_123 : decode prog_5_method_43_code 123 = .ok (.aload_n 0, 1) := by decide +kernel
theorem d_M_told_124 : decode prog_5_method_43_code 124 = .ok (.getfield 35, 3) := by decide +kernel
theorem d_M_told_127 : decode prog_5_method_43_code 127 = .ok (.iload_n 1, 1) := by decide +kernel
theorem d_M_told_128 : decode prog_5_method_43_code 128 = .ok (.iaload, 1) := by decide +kernel
theorem d_M_told_129 : decode prog_5_method_43_code 129 = .ok (.ireturn, 1) := by decide +kernel
theorem d_M_told_130 : decode prog_5_method_43_code 130 = .ok (.aload_n 0, 1) := by decide +kernel
theorem d_M_told_131 : decode prog_5_method_43_code 131 = .ok (.iload_n 1, 1) := by decide +kernel
theorem d_M_told_132 : decode prog_5_method_43_code 132 = .ok (.invokevirtual 131, 3) := by decide +kernel
theorem d_M_told_135 : decode prog_5_method_43_code 135 = .ok (.ireturn, 1) := by decide +kernel
theorem d_M_banksUnder_0 : decode prog_5_method_42_code 0 = .ok (.iconst 0, 1) := by decide +kernel
theorem d_M_banksUnder_1 : decode prog_5_method_42_code 1 = .ok (.istore_n 2, 1) := by decide +kernel
theorem d_M_banksUnder_2 : decode prog_5_method_42_code 2 = .ok (.iconst 0, 1) := by decide +kernel
theorem d_M_banksUnder_3 : decode prog_5_method_42_code 3 = .ok (.istore_n 3, 1) := by decide +kernel
theorem d_M_banksUnder_4 : decode prog_5_method_42_code 4 = .ok (.iload_n 3, 1) := by decide +kernel
theorem d_M_banksUnder_5 : decode prog_5_method_42_code 5 = .ok (.bipush 40, 2) := by decide +kernel
theorem d_M_banksUnder_7 : decode prog_5_method_42_code 7 = .ok (.if_icmp .ge 35, 3) := by decide +kernel
theorem d_M_banksUnder_10 : decode prog_5_method_42_code 10 = .ok (.iload_n 2, 1) := by decide +kernel
theorem d_M_banksUnder_11 : decode prog_5_method_42_code 11 = .ok (.aload_n 0, 1) := by decide +kernel
theorem d_M_banksUnder_12 : decode prog_5_method_42_code 12 = .ok (.getfield 25, 3) := by decide +kernel
theorem d_M_banksUnder_15 : decode prog_5_method_42_code 15 = .ok (.iload_n 3, 1) := by decide +kernel
theorem d_M_banksUnder_16 : decode prog_5_method_42_code 16 = .ok (.baload, 1) := by decide +kernel
theorem d_M_banksUnder_17 : decode prog_5_method_42_code 17 = .ok (.ifCond .eq 16, 3) := by decide +kernel
theorem d_M_banksUnder_20 : decode prog_5_method_42_code 20 = .ok (.aload_n 0, 1) := by decide +kernel
theorem d_M_banksUnder_21 : decode prog_5_method_42_code 21 = .ok (.iload_n 3, 1) := by decide +kernel
theorem d_M_banksUnder_22 : decode prog_5_method_42_code 22 = .ok (.iload_n 1, 1) := by decide +kernel
theorem d_M_banksUnder_23 : decode prog_5_method_42_code 23 = .ok (.invokevirtual 52, 3) := by decide +kernel
theorem d_M_banksUnder_26 : decode prog_5_method_42_code 26 = .ok (.ifCond .eq 7, 3) := by decide +kernel
theorem d_M_banksUnder_29 : decode prog_5_method_42_code 29 = .ok (.iconst 1, 1) := by decide +kernel
theorem d_M_banksUnder_30 : decode prog_5_method_42_code 30 = .ok (.goto 4, 3) := by decide +kernel
theorem d_M_banksUnder_33 : decode prog_5_method_42_code 33 = .ok (.iconst 0, 1) := by decide +kernel
theorem d_M_banksUnder_34 : decode prog_5_method_42_code 34 = .ok (.iadd, 1) := by decide +kernel
theorem d_M_banksUnder_35 : decode prog_5_method_42_code 35 = .ok (.istore_n 2, 1) := by decide +kernel
theorem d_M_banksUnder_36 : decode prog_5_method_42_code 36 = .ok (.iinc 3 1, 3) := by decide +kernel
theorem d_M_banksUnder_39 : decode prog_5_method_42_code 39 = .ok (.goto (-35), 3) := by decide +kernel
theorem d_M_banksUnder_42 : decode prog_5_method_42_code 42 = .ok (.iload_n 2, 1) := by decide +kernel
theorem d_M_banksUnder_43 : decode prog_5_method_42_code 43 = .ok (.ireturn, 1) := by decide +kernel
theorem d_M_page_0 : decode prog_5_method_44_code 0 = .ok (.aload_n 0, 1) := by decide +kernel
theorem d_M_page_1 : decode prog_5_method_44_code 1 = .ok (.aload_n 0, 1) := by decide +kernel
theorem d_M_page_2 : decode prog_5_method_44_code 2 = .ok (.iload_n 1, 1) := by decide +kernel
theorem d_M_page_3 : decode prog_5_method_44_code 3 = .ok (.invokevirtual 63, 3) := by decide +kernel
theorem d_M_page_6 : decode prog_5_method_44_code 6 = .ok (.ifCond .eq 22, 3) := by decide +kernel
theorem d_M_page_9 : decode prog_5_method_44_code 9 = .ok (.iload_n 2, 1) := by decide +kernel
theorem d_M_page_10 : decode prog_5_method_44_code 10 = .ok (.iconst 0, 1) := by decide +kernel
theorem d_M_page_11 : decode prog_5_method_44_code 11 = .ok (.aload_n 0, 1) := by decide +kernel
theorem d_M_page_12 : decode prog_5_method_44_code 12 = .ok (.iload_n 1, 1) := by decide +kernel
theorem d_M_page_13 : decode prog_5_method_44_code 13 = .ok (.invokevirtual 56, 3) := by decide +kernel
theorem d_M_page_16 : decode prog_5_method_44_code 16 = .ok (.iconst 1, 1) := by decide +kernel
theorem d_M_page_17 : decode prog_5_method_44_code 17 = .ok (.isub, 1) := by decide +kernel
theorem d_M_page_18 : decode prog_5_method_44_code 18 = .ok (.invokestatic 48, 3) := by decide +kernel
theorem d_M_page_21 : decode prog_5_method_44_code 21 = .ok (.ifCond .eq 7, 3) := by decide +kernel
theorem d_M_page_24 : decode prog_5_method_44_code 24 = .ok (.iconst 0, 1) := by decide +kernel
theorem d_M_page_25 : decode prog_5_method_44_code 25 = .ok (.goto 4, 3) := by decide +kernel
theorem d_M_page_28 : decode prog_5_method_44_code 28 = .ok (.iconst 1, 1) := by decide +kernel
theorem d_M_page_29 : decode prog_5_method_44_code 29 = .ok (.putfield 45, 3) := by decide +kernel
theorem d_M_page_32 : decode prog_5_method_44_code 32 = .ok (.aload_n 0, 1) := by decide +kernel
theorem d_M_page_33 : decode prog_5_method_44_code 33 = .ok (.getfield 45, 3) := by decide +kernel
theorem d_M_page_36 : decode prog_5_method_44_code 36 = .ok (.ifCond .gt 13, 3) := by decide +kernel
theorem d_M_page_39 : decode prog_5_method_44_code 39 = .ok (.aload_n 0, 1) := by decide +kernel
theorem d_M_page_40 : decode prog_5_method_44_code 40 = .ok (.getfield 35, 3) := by decide +kernel
theorem d_M_page_43 : decode prog_5_method_44_code 43 = .ok (.iload_n 1, 1) := by decide +kernel
theorem d_M_page_44 : decode prog_5_method_44_code 44 = .ok (.iaload, 1) := by decide +kernel
theorem d_M_page_45 : decode prog_5_method_44_code 45 = .ok (.iconst 2, 1) := by decide +kernel
theorem d_M_page_46 : decode prog_5_method_44_code 46 = .ok (.if_icmp .ne 5, 3) := by decide +kernel
theorem d_M_page_49 : decode prog_5_method_44_code 49 = .ok (.iconst 0, 1) := by decide +kernel
theorem d_M_page_50 : decode prog_5_method_44_code 50 = .ok (.ireturn, 1) := by decide +kernel
theorem d_M_page_51 : decode prog_5_method_44_code 51 = .ok (.aload_n 0, 1) := by decide +kernel
theorem d_M_page_52 : decode prog_5_method_44_code 52 = .ok (.iload_n 1, 1) := by decide +kernel
theorem d_M_page_53 : decode prog_5_method_44_code 53 = .ok (.iload_n 2, 1) := by decide +kernel
theorem d_M_page_54 : decode prog_5_method_44_code 54 = .ok (.invokevirtual 128, 3) := by decide +kernel
theorem d_M_page_57 : decode prog_5_method_44_code 57 = .ok (.istore_n 3, 1) := by decide +kernel
theorem d_M_page_58 : decode prog_5_method_44_code 58 = .ok (.aload_n 0, 1) := by decide +kernel
theorem d_M_page_59 : decode prog_5_method_44_code 59 = .ok (.getfield 13, 3) := by decide +kernel
theorem d_M_page_62 : decode prog_5_method_44_code 62 = .ok (.iload_n 3, 1) := by decide +kernel
theorem d_M_page_63 : decode prog_5_method_44_code 63 = .ok (.iaload, 1) := by decide +kernel
theorem d_M_page_64 : decode prog_5_method_44_code 64 = .ok (.iload_n 3, 1) := by decide +kernel
theorem d_M_page_65 : decode prog_5_method_44_code 65 = .ok (.invokestatic 96, 3) := by decide +kernel
theorem d_M_page_68 : decode prog_5_method_44_code 68 = .ok (.ireturn, 1) := by decide +kernel
theorem d_M_owner_0 : decode prog_5_method_45_code 0 = .ok (.aload_n 0, 1) := by decide +kernel
theorem d_M_owner_1 : decode prog_5_method_45_code 1 = .ok (.aload_n 0, 1) := by decide +kernel
theorem d_M_owner_2 : decode prog_5_method_45_code 2 = .ok (.iload_n 1, 1) := by decide +kernel
theorem d_M_owner_3 : decode prog_5_method_45_code 3 = .ok (.invokevirtual 106, 3) := by decide +kernel
theorem d_M_owner_6 : decode prog_5_method_45_code 6 = .ok (.ifCond .eq 7, 3) := by decide +kernel
theorem d_M_owner_9 : decode prog_5_method_45_code 9 = .ok (.iconst 0, 1) := by decide +kernel
theorem d_M_owner_10 : decode prog_5_method_45_code 10 = .ok (.goto 4, 3) := by decide +kernel
theorem d_M_owner_13 : decode prog_5_method_45_code 13 = .ok (.iconst 1, 1) := by decide +kernel
theorem d_M_owner_14 : decode prog_5_method_45_code 14 = .ok (.putfield 45, 3) := by decide +kernel
theorem d_M_owner_17 : decode prog_5_method_45_code 17 = .ok (.aload_n 0, 1) := by decide +kernel
theorem d_M_owner_18 : decode prog_5_method_45_code 18 = .ok (.getfield 45, 3) := by decide +kernel
theorem d_M_owner_21 : decode prog_5_method_45_code 21 = .ok (.ifCond .le 7, 3) := by decide +kernel
theorem d_M_owner_24 : decode prog_5_method_45_code 24 = .ok (.iconst 0, 1) := by decide +kernel
theorem d_M_owner_25 : decode prog_5_method_45_code 25 = .ok (.goto 12, 3) := by decide +kernel
theorem d_M_owner_28 : decode prog_5_method_45_code 28 = .ok (.aload_n 0, 1) := by decide +kernel
theorem d_M_owner_29 : decode prog_5_method_45_code 29 = .ok (.getfield 7, 3) := by decide +kernel
theorem d_M_owner_32 : decode prog_5_method_45_code 32 = .ok (.iload_n 1, 1) := by decide +kernel
theorem d_M_owner_33 : decode prog_5_method_45_code 33 = .ok (.invokestatic 103, 3) := by decide +kernel
theorem d_M_owner_36 : decode prog_5_method_45_code 36 = .ok (.iaload, 1) := by decide +kernel
theorem d_M_owner_37 : decode prog_5_method_45_code 37 = .ok (.ireturn, 1) := by decide +kernel
theorem d_M_isAlive_0 : decode prog_5_method_46_code 0 = .ok (.aload_n 0, 1) := by decide +kernel
theorem d_M_isAlive_1 : decode prog_5_method_46_code 1 = .ok (.iconst 0, 1) := by decide +kernel
theorem d_M_isAlive_2 : decode prog_5_method_46_code 2 = .ok (.putfield 45, 3) := by decide +kernel
theorem d_M_isAlive_5 : decode prog_5_method_46_code 5 = .ok (.aload_n 0, 1) := by decide +kernel
theorem d_M_isAlive_6 : decode prog_5_method_46_code 6 = .ok (.iload_n 1, 1) := by decide +kernel
theorem d_M_isAlive_7 : decode prog_5_method_46_code 7 = .ok (.invokevirtual 106, 3) := by decide +kernel
theorem d_M_isAlive_10 : decode prog_5_method_46_code 10 = .ok (.ireturn, 1) := by decide +kernel
theorem d_M_refused_0 : decode prog_5_method_47_code 0 = .ok (.aload_n 0, 1) := by decide +kernel
theorem d_M_refused_1 : decode prog_5_method_47_code 1 = .ok (.iconst 0, 1) := by decide +kernel
theorem d_M_refused_2 : decode prog_5_method_47_code 2 = .ok (.putfield 45, 3) := by decide +kernel
theorem d_M_refused_5 : decode prog_5_method_47_code 5 = .ok (.aload_n 0, 1) := by decide +kernel
theorem d_M_refused_6 : decode prog_5_method_47_code 6 = .ok (.getfield 41, 3) := by decide +kernel
theorem d_M_refused_9 : decode prog_5_method_47_code 9 = .ok (.ireturn, 1) := by decide +kernel
theorem d_M_count_0 : decode prog_5_method_48_code 0 = .ok (.aload_n 0, 1) := by decide +kernel
theorem d_M_count_1 : decode prog_5_method_48_code 1 = .ok (.iconst 0, 1) := by decide +kernel
theorem d_M_count_2 : decode prog_5_method_48_code 2 = .ok (.putfield 45, 3) := by decide +kernel
theorem d_M_count_5 : decode prog_5_method_48_code 5 = .ok (.iconst 0, 1) := by decide +kernel
theorem d_M_count_6 : decode prog_5_method_48_code 6 = .ok (.istore_n 2, 1) := by decide +kernel
theorem d_M_count_7 : decode prog_5_method_48_code 7 = .ok (.iconst 0, 1) := by decide +kernel
theorem d_M_count_8 : decode prog_5_method_48_code 8 = .ok (.istore_n 3, 1) := by decide +kernel
theorem d_M_count_9 : decode prog_5_method_48_code 9 = .ok (.iload_n 3, 1) := by decide +kernel
theorem d_M_count_10 : decode prog_5_method_48_code 10 = .ok (.sipush 192, 3) := by decide +kernel
theorem d_M_count_13 : decode prog_5_method_48_code 13 = .ok (.if_icmp .ge 83, 3) := by decide +kernel
theorem d_M_count_16 : decode prog_5_method_48_code 16 = .ok (.iload_n 1, 1) := by decide +kernel
theorem d_M_count_17 : decode prog_5_method_48_code 17 = .ok (.ifCond .ne 11, 3) := by decide +kernel
theorem d_M_count_20 : decode prog_5_method_48_code 20 = .ok (.aload_n 0, 1) := by decide +kernel
theorem d_M_count_21 : decode prog_5_method_48_code 21 = .ok (.iload_n 3, 1) := by decide +kernel
theorem d_M_count_22 : decode prog_5_method_48_code 22 = .ok (.invokevirtual 77, 3) := by decide +kernel
theorem d_M_count_25 : decode prog_5_method_48_code 25 = .ok (.goto 50, 3) := by decide +kernel
theorem d_M_count_28 : decode prog_5_method_48_code 28 = .ok (.iload_n 1, 1) := by decide +kernel
theorem d_M_count_29 : decode prog_5_method_48_code 29 = .ok (.iconst 1, 1) := by decide +kernel
theorem d_M_count_30 : decode prog_5_method_48_code 30 = .ok (.if_icmp .ne 31, 3) := by decide +kernel
theorem d_M_count_33 : decode prog_5_method_48_code 33 = .ok (.aload_n 0, 1) := by decide +kernel
theorem d_M_count_34 : decode prog_5_method_48_code 34 = .ok (.getfield 7, 3) := by decide +kernel
theorem d_M_count_37 : decode prog_5_method_48_code 37 = .ok (.iload_n 3, 1) := by decide +kernel
theorem d_M_count_38 : decode prog_5_method_48_code 38 = .ok (.iaload, 1) := by decide +kernel
theorem d_M_count_39 : decode prog_5_method_48_code 39 = .ok (.ifCond .ge 18, 3) := by decide +kernel
theorem d_M_count_42 : decode prog_5_method_48_code 42 = .ok (.aload_n 0, 1) := by decide +kernel
theorem d_M_count_43 : decode prog_5_method_48_code 43 = .ok (.getfield 13, 3) := by decide +kernel
theorem d_M_count_46 : decode prog_5_method_48_code 46 = .ok (.iload_n 3, 1) := by decide +kernel
theorem d_M_count_47 : decode prog_5_method_48_code 47 = .ok (.iaload, 1) := by decide +kernel
theorem d_M_count_48 : decode prog_5_method_48_code 48 = .ok (.bipush 7, 2) := by decide +kernel
theorem d_M_count_50 : decode prog_5_method_48_code 50 = .ok (.if_icmp .ne 7, 3) := by decide +kernel
theorem d_M_count_53 : decode prog_5_method_48_code 53 = .ok (.iconst 1, 1) := by decide +kernel
theorem d_M_count_54 : decode prog_5_method_48_code 54 = .ok (.goto 21, 3) := by decide +kernel
theorem d_M_count_57 : decode prog_5_method_48_code 57 = .ok (.iconst 0, 1) := by decide +kernel
theorem d_M_count_58 : decode prog_5_method_48_code 58 = .ok (.goto 17, 3) := by decide +kernel
theorem d_M_count_61 : decode prog_5_method_48_code 61 = .ok (.aload_n 0, 1) := by decide +kernel
theorem d_M_count_62 : decode prog_5_method_48_code 62 = .ok (.getfield 7, 3) := by decide +kernel
theorem d_M_count_65 : decode prog_5_method_48_code 65 = .ok (.iload_n 3, 1) := by decide +kernel
theorem d_M_count_66 : decode prog_5_method_48_code 66 = .ok (.iaload, 1) := by decide +kernel
theorem d_M_count_67 : decode prog_5_method_48_code 67 = .ok (.ifCond .lt 7, 3) := by decide +kernel
theorem d_M_count_70 : decode prog_5_method_48_code 70 = .ok (.iconst 1, 1) := by decide +kernel
theorem d_M_count_71 : decode prog_5_method_48_code 71 = .ok (.goto 4, 3) := by decide +kernel
theorem d_M_count_74 : decode prog_5_method_48_code 74 = .ok (.iconst 0, 1) := by decide +kernel
theorem d_M_count_75 : decode prog_5_method_48_code 75 = .ok (.istore 4, 2) := by decide +kernel
theorem d_M_count_77 : decode prog_5_method_48_code 77 = .ok (.iload_n 2, 1) := by decide +kernel
theorem d_M_count_78 : decode prog_5_method_48_code 78 = .ok (.iload 4, 2) := by decide +kernel
theorem d_M_count_80 : decode prog_5_method_48_code 80 = .ok (.ifCond .eq 7, 3) := by decide +kernel
theorem d_M_count_83 : decode prog_5_method_48_code 83 = .ok (.iconst 1, 1) := by decide +kernel
theorem d_M_count_84 : decode prog_5_method_48_code 84 = .ok (.goto 4, 3) := by decide +kernel
theorem d_M_count_87 : decode prog_5_method_48_code 87 = .ok (.iconst 0, 1) := by decide +kernel
theorem d_M_count_88 : decode prog_5_method_48_code 88 = .ok (.iadd, 1) := by decide +kernel
theorem d_M_count_89 : decode prog_5_method_48_code 89 = .ok (.istore_n 2, 1) := by decide +kernel
theorem d_M_count_90 : decode prog_5_method_48_code 90 = .ok (.iinc 3 1, 3) := by decide +kernel
theorem d_M_count_93 : decode prog_5_method_48_code 93 = .ok (.goto (-84), 3) := by decide +kernel
theorem d_M_count_96 : decode prog_5_method_48_code 96 = .ok (.iload_n 1, 1) := by decide +kernel
theorem d_M_count_97 : decode prog_5_method_48_code 97 = .ok (.iconst 3, 1) := by decide +kernel
theorem d_M_count_98 : decode prog_5_method_48_code 98 = .ok (.if_icmp .ne 11, 3) := by decide +kernel
theorem d_M_count_101 : decode prog_5_method_48_code 101 = .ok (.aload_n 0, 1) := by decide +kernel
theorem d_M_count_102 : decode prog_5_method_48_code 102 = .ok (.iconst 0, 1) := by decide +kernel
theorem d_M_count_103 : decode prog_5_method_48_code 103 = .ok (.invokevirtual 131, 3) := by decide +kernel
theorem d_M_count_106 : decode prog_5_method_48_code 106 = .ok (.goto 17, 3) := by decide +kernel
theorem d_M_count_109 : decode prog_5_method_48_code 109 = .ok (.iload_n 1, 1) := by decide +kernel
theorem d_M_count_110 : decode prog_5_method_48_code 110 = .ok (.iconst 0, 1) := by decide +kernel
theorem d_M_count_111 : decode prog_5_method_48_code 111 = .ok (.iconst 2, 1) := by decide +kernel
theorem d_M_count_112 : decode prog_5_method_48_code 112 = .ok (.invokestatic 48, 3) := by decide +kernel
theorem d_M_count_115 : decode prog_5_method_48_code 115 = .ok (.ifCond .eq 7, 3) := by decide +kernel
theorem d_M_count_118 : decode prog_5_method_48_code 118 = .ok (.iload_n 2, 1) := by decide +kernel
theorem d_M_count_119 : decode prog_5_method_48_code 119 = .ok (.goto 4, 3) := by decide +kernel
theorem d_M_count_122 : decode prog_5_method_48_code 122 = .ok (.iconst (-1), 1) := by decide +kernel
theorem d_M_count_123 : decode prog_5_method_48_code 123 = .ok (.ireturn, 1) := by decide +kernel
theorem d_M_astray_0 : decode prog_5_method_49_code 0 = .ok (.aload_n 0, 1) := by decide +kernel
theorem d_M_astray_1 : decode prog_5_method_49_code 1 = .ok (.iconst 0, 1) := by decide +kernel
theorem d_M_astray_2 : decode prog_5_method_49_code 2 = .ok (.putfield 45, 3) := by decide +kernel
theorem d_M_astray_5 : decode prog_5_method_49_code 5 = .ok (.iconst 0, 1) := by decide +kernel
theorem d_M_astray_6 : decode prog_5_method_49_code 6 = .ok (.ireturn, 1) := by decide +kernel
