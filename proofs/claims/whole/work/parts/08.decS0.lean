theorem d_S_init_0 : decode prog_2_method_1_code 0 = .ok (.aload_n 0, 1) := by decide +kernel
theorem d_S_init_1 : decode prog_2_method_1_code 1 = .ok (.invokespecial 3, 3) := by decide +kernel
theorem d_S_init_4 : decode prog_2_method_1_code 4 = .ok (.aload_n 0, 1) := by decide +kernel
theorem d_S_init_5 : decode prog_2_method_1_code 5 = .ok (.sipush 192, 3) := by decide +kernel
theorem d_S_init_8 : decode prog_2_method_1_code 8 = .ok (.newarray .int, 2) := by decide +kernel
theorem d_S_init_10 : decode prog_2_method_1_code 10 = .ok (.putfield 9, 3) := by decide +kernel
theorem d_S_init_13 : decode prog_2_method_1_code 13 = .ok (.aload_n 0, 1) := by decide +kernel
theorem d_S_init_14 : decode prog_2_method_1_code 14 = .ok (.sipush 192, 3) := by decide +kernel
theorem d_S_init_17 : decode prog_2_method_1_code 17 = .ok (.newarray .int, 2) := by decide +kernel
theorem d_S_init_19 : decode prog_2_method_1_code 19 = .ok (.putfield 15, 3) := by decide +kernel
theorem d_S_init_22 : decode prog_2_method_1_code 22 = .ok (.aload_n 0, 1) := by decide +kernel
theorem d_S_init_23 : decode prog_2_method_1_code 23 = .ok (.sipush 192, 3) := by decide +kernel
theorem d_S_init_26 : decode prog_2_method_1_code 26 = .ok (.newarray .int, 2) := by decide +kernel
theorem d_S_init_28 : decode prog_2_method_1_code 28 = .ok (.putfield 18, 3) := by decide +kernel
theorem d_S_init_31 : decode prog_2_method_1_code 31 = .ok (.aload_n 0, 1) := by decide +kernel
theorem d_S_init_32 : decode prog_2_method_1_code 32 = .ok (.sipush 768, 3) := by decide +kernel
theorem d_S_init_35 : decode prog_2_method_1_code 35 = .ok (.newarray .int, 2) := by decide +kernel
theorem d_S_init_37 : decode prog_2_method_1_code 37 = .ok (.putfield 21, 3) := by decide +kernel
theorem d_S_init_40 : decode prog_2_method_1_code 40 = .ok (.aload_n 0, 1) := by decide +kernel
theorem d_S_init_41 : decode prog_2_method_1_code 41 = .ok (.sipush 192, 3) := by decide +kernel
theorem d_S_init_44 : decode prog_2_method_1_code 44 = .ok (.newarray .int, 2) := by decide +kernel
theorem d_S_init_46 : decode prog_2_method_1_code 46 = .ok (.putfield 24, 3) := by decide +kernel
theorem d_S_init_49 : decode prog_2_method_1_code 49 = .ok (.aload_n 0, 1) := by decide +kernel
theorem d_S_init_50 : decode prog_2_method_1_code 50 = .ok (.sipush 192, 3) := by decide +kernel
theorem d_S_init_53 : decode prog_2_method_1_code 53 = .ok (.newarray .int, 2) := by decide +kernel
theorem d_S_init_55 : decode prog_2_method_1_code 55 = .ok (.putfield 27, 3) := by decide +kernel
theorem d_S_init_58 : decode prog_2_method_1_code 58 = .ok (.aload_n 0, 1) := by decide +kernel
theorem d_S_init_59 : decode prog_2_method_1_code 59 = .ok (.getfield 15, 3) := by decide +kernel
theorem d_S_init_62 : decode prog_2_method_1_code 62 = .ok (.iconst (-1), 1) := by decide +kernel
theorem d_S_init_63 : decode prog_2_method_1_code 63 = .ok (.invokestatic 30, 3) := by decide +kernel
theorem d_S_init_66 : decode prog_2_method_1_code 66 = .ok (.return_, 1) := by decide +kernel
theorem d_S_hasPage_0 : decode prog_2_method_4_code 0 = .ok (.iload_n 1, 1) := by decide +kernel
theorem d_S_hasPage_1 : decode prog_2_method_4_code 1 = .ok (.sipush 192, 3) := by decide +kernel
theorem d_S_hasPage_4 : decode prog_2_method_4_code 4 = .ok (.if_icmp .ge 25, 3) := by decide +kernel
theorem d_S_hasPage_7 : decode prog_2_method_4_code 7 = .ok (.aload_n 0, 1) := by decide +kernel
theorem d_S_hasPage_8 : decode prog_2_method_4_code 8 = .ok (.iload_n 1, 1) := by decide +kernel
theorem d_S_hasPage_9 : decode prog_2_method_4_code 9 = .ok (.invokevirtual 36, 3) := by decide +kernel
theorem d_S_hasPage_12 : decode prog_2_method_4_code 12 = .ok (.ifCond .eq 17, 3) := by decide +kernel
theorem d_S_hasPage_15 : decode prog_2_method_4_code 15 = .ok (.aload_n 0, 1) := by decide +kernel
theorem d_S_hasPage_16 : decode prog_2_method_4_code 16 = .ok (.getfield 9, 3) := by decide +kernel
theorem d_S_hasPage_19 : decode prog_2_method_4_code 19 = .ok (.iload_n 1, 1) := by decide +kernel
theorem d_S_hasPage_20 : decode prog_2_method_4_code 20 = .ok (.iaload, 1) := by decide +kernel
theorem d_S_hasPage_21 : decode prog_2_method_4_code 21 = .ok (.iload_n 2, 1) := by decide +kernel
theorem d_S_hasPage_22 : decode prog_2_method_4_code 22 = .ok (.if_icmp .ne 7, 3) := by decide +kernel
theorem d_S_hasPage_25 : decode prog_2_method_4_code 25 = .ok (.iconst 1, 1) := by decide +kernel
theorem d_S_hasPage_26 : decode prog_2_method_4_code 26 = .ok (.goto 4, 3) := by decide +kernel
theorem d_S_hasPage_29 : decode prog_2_method_4_code 29 = .ok (.iconst 0, 1) := by decide +kernel
theorem d_S_hasPage_30 : decode prog_2_method_4_code 30 = .ok (.ireturn, 1) := by decide +kernel
theorem d_S_isTaken_0 : decode prog_2_method_2_code 0 = .ok (.aload_n 0, 1) := by decide +kernel
theorem d_S_isTaken_1 : decode prog_2_method_2_code 1 = .ok (.getfield 15, 3) := by decide +kernel
theorem d_S_isTaken_4 : decode prog_2_method_2_code 4 = .ok (.iload_n 1, 1) := by decide +kernel
theorem d_S_isTaken_5 : decode prog_2_method_2_code 5 = .ok (.iaload, 1) := by decide +kernel
theorem d_S_isTaken_6 : decode prog_2_method_2_code 6 = .ok (.iconst (-1), 1) := by decide +kernel
theorem d_S_isTaken_7 : decode prog_2_method_2_code 7 = .ok (.if_icmp .eq 7, 3) := by decide +kernel
theorem d_S_isTaken_10 : decode prog_2_method_2_code 10 = .ok (.iconst 1, 1) := by decide +kernel
theorem d_S_isTaken_11 : decode prog_2_method_2_code 11 = .ok (.goto 4, 3) := by decide +kernel
theorem d_S_isTaken_14 : decode prog_2_method_2_code 14 = .ok (.iconst 0, 1) := by decide +kernel
theorem d_S_isTaken_15 : decode prog_2_method_2_code 15 = .ok (.ireturn, 1) := by decide +kernel
theorem d_S_ownerOf_0 : decode prog_2_method_6_code 0 = .ok (.aload_n 0, 1) := by decide +kernel
theorem d_S_ownerOf_1 : decode prog_2_method_6_code 1 = .ok (.getfield 15, 3) := by decide +kernel
theorem d_S_ownerOf_4 : decode prog_2_method_6_code 4 = .ok (.iload_n 1, 1) := by decide +kernel
theorem d_S_ownerOf_5 : decode prog_2_method_6_code 5 = .ok (.iaload, 1) := by decide +kernel
theorem d_S_ownerOf_6 : decode prog_2_method_6_code 6 = .ok (.ireturn, 1) := by decide +kernel
theorem d_S_freePlaces_0 : decode prog_2_method_11_code 0 = .ok (.iconst 0, 1) := by decide +kernel
theorem d_S_freePlaces_1 : decode prog_2_method_11_code 1 = .ok (.istore_n 1, 1) := by decide +kernel
theorem d_S_freePlaces_2 : decode prog_2_method_11_code 2 = .ok (.iconst 0, 1) := by decide +kernel
theorem d_S_freePlaces_3 : decode prog_2_method_11_code 3 = .ok (.istore_n 2, 1) := by decide +kernel
theorem d_S_freePlaces_4 : decode prog_2_method_11_code 4 = .ok (.iload_n 2, 1) := by decide +kernel
theorem d_S_freePlaces_5 : decode prog_2_method_11_code 5 = .ok (.sipush 192, 3) := by decide +kernel
theorem d_S_freePlaces_8 : decode prog_2_method_11_code 8 = .ok (.if_icmp .ge 20, 3) := by decide +kernel
theorem d_S_freePlaces_11 : decode prog_2_method_11_code 11 = .ok (.aload_n 0, 1) := by decide +kernel
theorem d_S_freePlaces_12 : decode prog_2_method_11_code 12 = .ok (.iload_n 2, 1) := by decide +kernel
theorem d_S_freePlaces_13 : decode prog_2_method_11_code 13 = .ok (.invokevirtual 44, 3) := by decide +kernel
theorem d_S_freePlaces_16 : decode prog_2_method_11_code 16 = .ok (.ifCond .eq 6, 3) := by decide +kernel
theorem d_S_freePlaces_19 : decode prog_2_method_11_code 19 = .ok (.iinc 1 1, 3) := by decide +kernel
theorem d_S_freePlaces_22 : decode prog_2_method_11_code 22 = .ok (.iinc 2 1, 3) := by decide +kernel
theorem d_S_freePlaces_25 : decode prog_2_method_11_code 25 = .ok (.goto (-21), 3) := by decide +kernel
theorem d_S_freePlaces_28 : decode prog_2_method_11_code 28 = .ok (.iload_n 1, 1) := by decide +kernel
theorem d_S_freePlaces_29 : decode prog_2_method_11_code 29 = .ok (.ireturn, 1) := by decide +kernel
theorem d_S_isFree_0 : decode prog_2_method_3_code 0 = .ok (.aload_n 0, 1) := by decide +kernel
theorem d_S_isFree_1 : decode prog_2_method_3_code 1 = .ok (.getfield 15, 3) := by decide +kernel
theorem d_S_isFree_4 : decode prog_2_method_3_code 4 = .ok (.iload_n 1, 1) := by decide +kernel
theorem d_S_isFree_5 : decode prog_2_method_3_code 5 = .ok (.iaload, 1) := by decide +kernel
theorem d_S_isFree_6 : decode prog_2_method_3_code 6 = .ok (.iconst (-1), 1) := by decide +kernel
theorem d_S_isFree_7 : decode prog_2_method_3_code 7 = .ok (.if_icmp .ne 18, 3) := by decide +kernel
theorem d_S_isFree_10 : decode prog_2_method_3_code 10 = .ok (.aload_n 0, 1) := by decide +kernel
theorem d_S_isFree_11 : decode prog_2_method_3_code 11 = .ok (.getfield 9, 3) := by decide +kernel
theorem d_S_isFree_14 : decode prog_2_method_3_code 14 = .ok (.iload_n 1, 1) := by decide +kernel
theorem d_S_isFree_15 : decode prog_2_method_3_code 15 = .ok (.iaload, 1) := by decide +kernel
theorem d_S_isFree_16 : decode prog_2_method_3_code 16 = .ok (.bipush 7, 2) := by decide +kernel
theorem d_S_isFree_18 : decode prog_2_method_3_code 18 = .ok (.if_icmp .ge 7, 3) := by decide +kernel
theorem d_S_isFree_21 : decode prog_2_method_3_code 21 = .ok (.iconst 1, 1) := by decide +kernel
theorem d_S_isFree_22 : decode prog_2_method_3_code 22 = .ok (.goto 4, 3) := by decide +kernel
theorem d_S_isFree_25 : decode prog_2_method_3_code 25 = .ok (.iconst 0, 1) := by decide +kernel
theorem d_S_isFree_26 : decode prog_2_method_3_code 26 = .ok (.ireturn, 1) := by decide +kernel
theorem d_S_retiredPlaces_0 : decode prog_2_method_12_code 0 = .ok (.sipush 192, 3) := by decide +kernel
theorem d_S_retiredPlaces_3 : decode prog_2_method_12_code 3 = .ok (.aload_n 0, 1) := by decide +kernel
theorem d_S_retiredPlaces_4 : decode prog_2_method_12_code 4 = .ok (.getfield 40, 3) := by decide +kernel
theorem d_S_retiredPlaces_7 : decode prog_2_method_12_code 7 = .ok (.isub, 1) := by decide +kernel
theorem d_S_retiredPlaces_8 : decode prog_2_method_12_code 8 = .ok (.aload_n 0, 1) := by decide +kernel
theorem d_S_retiredPlaces_9 : decode prog_2_method_12_code 9 = .ok (.invokevirtual 47, 3) := by decide +kernel
theorem d_S_retiredPlaces_12 : decode prog_2_method_12_code 12 = .ok (.isub, 1) := by decide +kernel
theorem d_S_retiredPlaces_13 : decode prog_2_method_12_code 13 = .ok (.ireturn, 1) := by decide +kernel
theorem d_S_pages_0 : decode prog_2_method_10_code 0 = .ok (.aload_n 0, 1) := by decide +kernel
theorem d_S_pages_1 : decode prog_2_method_10_code 1 = .ok (.getfield 40, 3) := by decide +kernel
theorem d_S_pages_4 : decode prog_2_method_10_code 4 = .ok (.ireturn, 1) := by decide +kernel
theorem d_S_ownedBy_0 : decode prog_2_method_20_code 0 = .ok (.iconst 0, 1) := by decide +kernel
theorem d_S_ownedBy_1 : decode prog_2_method_20_code 1 = .ok (.istore_n 2, 1) := by decide +kernel
theorem d_S_ownedBy_2 : decode prog_2_method_20_code 2 = .ok (.iconst 0, 1) := by decide +kernel
theorem d_S_ownedBy_3 : decode prog_2_method_20_code 3 = .ok (.istore_n 3, 1) := by decide +kernel
theorem d_S_ownedBy_4 : decode prog_2_method_20_code 4 = .ok (.iload_n 3, 1) := by decide +kernel
theorem d_S_ownedBy_5 : decode prog_2_method_20_code 5 = .ok (.sipush 192, 3) := by decide +kernel
theorem d_S_ownedBy_8 : decode prog_2_method_20_code 8 = .ok (.if_icmp .ge 22, 3) := by decide +kernel
theorem d_S_ownedBy_11 : decode prog_2_method_20_code 11 = .ok (.aload_n 0, 1) := by decide +kernel
theorem d_S_ownedBy_12 : decode prog_2_method_20_code 12 = .ok (.getfield 15, 3) := by decide +kernel
theorem d_S_ownedBy_15 : decode prog_2_method_20_code 15 = .ok (.iload_n 3, 1) := by decide +kernel
theorem d_S_ownedBy_16 : decode prog_2_method_20_code 16 = .ok (.iaload, 1) := by decide +kernel
theorem d_S_ownedBy_17 : decode prog_2_method_20_code 17 = .ok (.iload_n 1, 1) := by decide +kernel
theorem d_S_ownedBy_18 : decode prog_2_method_20_code 18 = .ok (.if_icmp .ne 6, 3) := by decide +kernel
theorem d_S_ownedBy_21 : decode prog_2_method_20_code 21 = .ok (.iinc 2 1, 3) := by decide +kernel
theorem d_S_ownedBy_24 : decode prog_2_method_20_code 24 = .ok (.iinc 3 1, 3) := by decide +kernel
theorem d_S_ownedBy_27 : decode prog_2_method_20_code 27 = .ok (.goto (-23), 3) := by decide +kernel
theorem d_S_ownedBy_30 : decode prog_2_method_20_code 30 = .ok (.iload_n 2, 1) := by decide +kernel
theorem d_S_ownedBy_31 : decode prog_2_method_20_code 31 = .ok (.ireturn, 1) := by decide +kernel
theorem d_S_countListings_0 : decode prog_2_method_22_code 0 = .ok (.aload_n 0, 1) := by decide +kernel
theorem d_S_countListings_1 : decode prog_2_method_22_code 1 = .ok (.getfield 27, 3) := by decide +kernel
theorem d_S_countListings_4 : decode prog_2_method_22_code 4 = .ok (.iconst 0, 1) := by decide +kernel
theorem d_S_countListings_5 : decode prog_2_method_22_code 5 = .ok (.invokestatic 30, 3) := by decide +kernel
theorem d_S_countListings_8 : decode prog_2_method_22_code 8 = .ok (.iconst 0, 1) := by decide +kernel
theorem d_S_countListings_9 : decode prog_2_method_22_code 9 = .ok (.istore_n 1, 1) := by decide +kernel
theorem d_S_countListings_10 : decode prog_2_method_22_code 10 = .ok (.iload_n 1, 1) := by decide +kernel
theorem d_S_countListings_11 : decode prog_2_method_22_code 11 = .ok (.aload_n 0, 1) := by decide +kernel
theorem d_S_countListings_12 : decode prog_2_method_22_code 12 = .ok (.getfield 40, 3) := by decide +kernel
theorem d_S_countListings_15 : decode prog_2_method_22_code 15 = .ok (.if_icmp .ge 24, 3) := by decide +kernel
theorem d_S_countListings_18 : decode prog_2_method_22_code 18 = .ok (.aload_n 0, 1) := by decide +kernel
theorem d_S_countListings_19 : decode prog_2_method_22_code 19 = .ok (.getfield 27, 3) := by decide +kernel
theorem d_S_countListings_22 : decode prog_2_method_22_code 22 = .ok (.aload_n 0, 1) := by decide +kernel
theorem d_S_countListings_23 : decode prog_2_method_22_code 23 = .ok (.getfield 24, 3) := by decide +kernel
theorem d_S_countListings_26 : decode prog_2_method_22_code 26 = .ok (.iload_n 1, 1) := by decide +kernel
theorem d_S_countListings_27 : decode prog_2_method_22_code 27 = .ok (.iaload, 1) := by decide +kernel
theorem d_S_countListings_28 : decode prog_2_method_22_code 28 = .ok (.dup2, 1) := by decide +kernel
theorem d_S_countListings_29 : decode prog_2_method_22_code 29 = .ok (.iaload, 1) := by decide +kernel
theorem d_S_countListings_30 : decode prog_2_method_22_code 30 = .ok (.iconst 1, 1) := by decide +kernel
theorem d_S_countListings_31 : decode prog_2_method_22_code 31 = .ok (.iadd, 1) := by decide +kernel
theorem d_S_countListings_32 : decode prog_2_method_22_code 32 = .ok (.iastore, 1) := by decide +kernel
theorem d_S_countListings_33 : decode prog_2_method_22_code 33 = .ok (.iinc 1 1, 3) := by decide +kernel
theorem d_S_countListings_36 : decode prog_2_method_22_code 36 = .ok (.goto (-26), 3) := by decide +kernel
theorem d_S_countListings_39 : decode prog_2_method_22_code 39 = .ok (.return_, 1) := by decide +kernel
theorem d_S_isListedWrongly_0 : decode prog_2_method_23_code 0 = .ok (.aload_n 0, 1) := by decide +kernel
theorem d_S_isListedWrongly_1 : decode prog_2_method_23_code 1 = .ok (.getfield 27, 3) := by decide +kernel
theorem d_S_isListedWrongly_4 : decode prog_2_method_23_code 4 = .ok (.iload_n 1, 1) := by decide +kernel
theorem d_S_isListedWrongly_5 : decode prog_2_method_23_code 5 = .ok (.iaload, 1) := by decide +kernel
theorem d_S_isListedWrongly_6 : decode prog_2_method_23_code 6 = .ok (.aload_n 0, 1) := by decide +kernel
theorem d_S_isListedWrongly_7 : decode prog_2_method_23_code 7 = .ok (.iload_n 1, 1) := by decide +kernel
theorem d_S_isListedWrongly_8 : decode prog_2_method_23_code 8 = .ok (.invokevirtual 36, 3) := by decide +kernel
theorem d_S_isListedWrongly_11 : decode prog_2_method_23_code 11 = .ok (.ifCond .eq 7, 3) := by decide +kernel
theorem d_S_isListedWrongly_14 : decode prog_2_method_23_code 14 = .ok (.iconst 1, 1) := by decide +kernel
theorem d_S_isListedWrongly_15 : decode prog_2_method_23_code 15 = .ok (.goto 4, 3) := by decide +kernel
theorem d_S_isListedWrongly_18 : decode prog_2_method_23_code 18 = .ok (.iconst 0, 1) := by decide +kernel
theorem d_S_isListedWrongly_19 : decode prog_2_method_23_code 19 = .ok (.if_icmp .eq 7, 3) := by decide +kernel
theorem d_S_isListedWrongly_22 : decode prog_2_method_23_code 22 = .ok (.iconst 1, 1) := by decide +kernel
theorem d_S_isListedWrongly_23 : decode prog_2_method_23_code 23 = .ok (.goto 4, 3) := by decide +kernel
theorem d_S_isListedWrongly_26 : decode prog_2_method_23_code 26 = .ok (.iconst 0, 1) := by decide +kernel
theorem d_S_isListedWrongly_27 : decode prog_2_method_23_code 27 = .ok (.ireturn, 1) := by decide +kernel
theorem d_S_leastFree_0 : decode prog_2_method_13_code 0 = .ok (.iconst 0, 1) := by decide +kernel
theorem d_S_leastFree_1 : decode prog_2_method_13_code 1 = .ok (.istore_n 2, 1) := by decide +kernel
theorem d_S_leastFree_2 : decode prog_2_method_13_code 2 = .ok (.iconst 0, 1) := by decide +kernel
theorem d_S_leastFree_3 : decode prog_2_method_13_code 3 = .ok (.istore_n 3, 1) := by decide +kernel
theorem d_S_leastFree_4 : decode prog_2_method_13_code 4 = .ok (.iload_n 3, 1) := by decide +kernel
theorem d_S_leastFree_5 : decode prog_2_method_13_code 5 = .ok (.sipush 192, 3) := by decide +kernel
theorem d_S_leastFree_8 : decode prog_2_method_13_code 8 = .ok (.if_icmp .ge 36, 3) := by decide +kernel
theorem d_S_leastFree_11 : decode prog_2_method_13_code 11 = .ok (.aload_n 0, 1) := by decide +kernel
theorem d_S_leastFree_12 : decode prog_2_method_13_code 12 = .ok (.iload_n 3, 1) := by decide +kernel
theorem d_S_leastFree_13 : decode prog_2_method_13_code 13 = .ok (.invokevirtual 44, 3) := by decide +kernel
theorem d_S_leastFree_16 : decode prog_2_method_13_code 16 = .ok (.ifCond .eq 9, 3) := by decide +kernel
theorem d_S_leastFree_19 : decode prog_2_method_13_code 19 = .ok (.iload_n 2, 1) := by decide +kernel
theorem d_S_leastFree_20 : decode prog_2_method_13_code 20 = .ok (.iconst 1, 1) := by decide +kernel
theorem d_S_leastFree_21 : decode prog_2_method_13_code 21 = .ok (.iadd, 1) := by decide +kernel
theorem d_S_leastFree_22 : decode prog_2_method_13_code 22 = .ok (.goto 4, 3) := by decide +kernel
theorem d_S_leastFree_25 : decode prog_2_method_13_code 25 = .ok (.iconst 0, 1) := by decide +kernel
theorem d_S_leastFree_26 : decode prog_2_method_13_code 26 = .ok (.istore_n 2, 1) := by decide +kernel
theorem d_S_leastFree_27 : decode prog_2_method_13_code 27 = .ok (.iload_n 2, 1) := by decide +kernel
theorem d_S_leastFree_28 : decode prog_2_method_13_code 28 = .ok (.iload_n 1, 1) := by decide +kernel
theorem d_S_leastFree_29 : decode prog_2_method_13_code 29 = .ok (.if_icmp .ne 9, 3) := by decide +kernel
theorem d_S_leastFree_32 : decode prog_2_method_13_code 32 = .ok (.iload_n 3, 1) := by decide +kernel
theorem d_S_leastFree_33 : decode prog_2_method_13_code 33 = .ok (.iload_n 1, 1) := by decide +kernel
theorem d_S_leastFree_34 : decode prog_2_method_13_code 34 = .ok (.isub, 1) := by decide +kernel
theorem d_S_leastFree_35 : decode prog_2_method_13_code 35 = .ok (.iconst 1, 1) := by decide +kernel
theorem d_S_leastFree_36 : decode prog_2_method_13_code 36 = .ok (.iadd, 1) := by decide +kernel
theorem d_S_leastFree_37 : decode prog_2_method_13_code 37 = .ok (.ireturn, 1) := by decide +kernel
theorem d_S_leastFree_38 : decode prog_2_method_13_code 38 = .ok (.iinc 3 1, 3) := by decide +kernel
theorem d_S_leastFree_41 : decode prog_2_method_13_code 41 = .ok (.goto (-37), 3) := by decide +kernel
theorem d_S_leastFree_44 : decode prog_2_method_13_code 44 = .ok (.iconst (-1), 1) := by decide +kernel
theorem d_S_leastFree_45 : decode prog_2_method_13_code 45 = .ok (.ireturn, 1) := by decide +kernel
theorem d_S_fill_0 : decode prog_2_method_14_code 0 = .ok (.aload_n 0, 1) := by decide +kernel
theorem d_S_fill_1 : decode prog_2_method_14_code 1 = .ok (.dup, 1) := by decide +kernel
theorem d_S_fill_2 : decode prog_2_method_14_code 2 = .ok (.getfield 51, 3) := by decide +kernel
theorem d_S_fill_5 : decode prog_2_method_14_code 5 = .ok (.iconst 1, 1) := by decide +kernel
theorem d_S_fill_6 : decode prog_2_method_14_code 6 = .ok (.iadd, 1) := by decide +kernel
theorem d_S_fill_7 : decode prog_2_method_14_code 7 = .ok (.putfield 51, 3) := by decide +kernel
theorem d_S_fill_10 : decode prog_2_method_14_code 10 = .ok (.iload_n 1, 1) := by decide +kernel
theorem d_S_fill_11 : decode prog_2_method_14_code 11 = .ok (.istore 4, 2) := by decide +kernel
theorem d_S_fill_13 : decode prog_2_method_14_code 13 = .ok (.iload 4, 2) := by decide +kernel
theorem d_S_fill_15 : decode prog_2_method_14_code 15 = .ok (.iload_n 1, 1) := by decide +kernel
theorem d_S_fill_16 : decode prog_2_method_14_code 16 = .ok (.iload_n 2, 1) := by decide +kernel
theorem d_S_fill_17 : decode prog_2_method_14_code 17 = .ok (.iadd, 1) := by decide +kernel
theorem d_S_fill_18 : decode prog_2_method_14_code 18 = .ok (.if_icmp .ge 44, 3) := by decide +kernel
theorem d_S_fill_21 : decode prog_2_method_14_code 21 = .ok (.aload_n 0, 1) := by decide +kernel
theorem d_S_fill_22 : decode prog_2_method_14_code 22 = .ok (.getfield 9, 3) := by decide +kernel
theorem d_S_fill_25 : decode prog_2_method_14_code 25 = .ok (.iload 4, 2) := by decide +kernel
theorem d_S_fill_27 : decode prog_2_method_14_code 27 = .ok (.dup2, 1) := by decide +kernel
theorem d_S_fill_28 : decode prog_2_method_14_code 28 = .ok (.iaload, 1) := by decide +kernel
theorem d_S_fill_29 : decode prog_2_method_14_code 29 = .ok (.iconst 1, 1) := by decide +kernel
theorem d_S_fill_30 : decode prog_2_method_14_code 30 = .ok (.iadd, 1) := by decide +kernel
theorem d_S_fill_31 : decode prog_2_method_14_code 31 = .ok (.iastore, 1) := by decide +kernel
theorem d_S_fill_32 : decode prog_2_method_14_code 32 = .ok (.aload_n 0, 1) := by decide +kernel
theorem d_S_fill_33 : decode prog_2_method_14_code 33 = .ok (.getfield 18, 3) := by decide +kernel
theorem d_S_fill_36 : decode prog_2_method_14_code 36 = .ok (.iload 4, 2) := by decide +kernel
theorem d_S_fill_38 : decode prog_2_method_14_code 38 = .ok (.aload_n 0, 1) := by decide +kernel
theorem d_S_fill_39 : decode prog_2_method_14_code 39 = .ok (.getfield 51, 3) := by decide +kernel
theorem d_S_fill_42 : decode prog_2_method_14_code 42 = .ok (.iastore, 1) := by decide +kernel
theorem d_S_fill_43 : decode prog_2_method_14_code 43 = .ok (.aload_n 0, 1) := by decide +kernel
theorem d_S_fill_44 : decode prog_2_method_14_code 44 = .ok (.iload 4, 2) := by decide +kernel
theorem d_S_fill_46 : decode prog_2_method_14_code 46 = .ok (.invokevirtual 54, 3) := by decide +kernel
theorem d_S_fill_49 : decode prog_2_method_14_code 49 = .ok (.aload_n 0, 1) := by decide +kernel
theorem d_S_fill_50 : decode prog_2_method_14_code 50 = .ok (.iload 4, 2) := by decide +kernel
theorem d_S_fill_52 : decode prog_2_method_14_code 52 = .ok (.iload_n 3, 1) := by decide +kernel
theorem d_S_fill_53 : decode prog_2_method_14_code 53 = .ok (.invokevirtual 58, 3) := by decide +kernel
theorem d_S_fill_56 : decode prog_2_method_14_code 56 = .ok (.iinc 4 1, 3) := by decide +kernel
theorem d_S_fill_59 : decode prog_2_method_14_code 59 = .ok (.goto (-46), 3) := by decide +kernel
theorem d_S_fill_62 : decode prog_2_method_14_code 62 = .ok (.return_, 1) := by decide +kernel
theorem d_S_clearWords_0 : decode prog_2_method_15_code 0 = .ok (.iconst 0, 1) := by decide +kernel
theorem d_S_clearWords_1 : decode prog_2_method_15_code 1 = .ok (.istore_n 2, 1) := by decide +kernel
theorem d_S_clearWords_2 : decode prog_2_method_15_code 2 = .ok (.iload_n 2, 1) := by decide +kernel
theorem d_S_clearWords_3 : decode prog_2_method_15_code 3 = .ok (.iconst 4, 1) := by decide +kernel
theorem d_S_clearWords_4 : decode prog_2_method_15_code 4 = .ok (.if_icmp .ge 20, 3) := by decide +kernel
theorem d_S_clearWords_7 : decode prog_2_method_15_code 7 = .ok (.aload_n 0, 1) := by decide +kernel
theorem d_S_clearWords_8 : decode prog_2_method_15_code 8 = .ok (.getfield 21, 3) := by decide +kernel
theorem d_S_clearWords_11 : decode prog_2_method_15_code 11 = .ok (.iload_n 1, 1) := by decide +kernel
theorem d_S_clearWords_12 : decode prog_2_method_15_code 12 = .ok (.iconst 4, 1) := by decide +kernel
theorem d_S_clearWords_13 : decode prog_2_method_15_code 13 = .ok (.imul, 1) := by decide +kernel
theorem d_S_clearWords_14 : decode prog_2_method_15_code 14 = .ok (.iload_n 2, 1) := by decide +kernel
theorem d_S_clearWords_15 : decode prog_2_method_15_code 15 = .ok (.iadd, 1) := by decide +kernel
theorem d_S_clearWords_16 : decode prog_2_method_15_code 16 = .ok (.iconst 0, 1) := by decide +kernel
theorem d_S_clearWords_17 : decode prog_2_method_15_code 17 = .ok (.iastore, 1) := by decide +kernel
theorem d_S_clearWords_18 : decode prog_2_method_15_code 18 = .ok (.iinc 2 1, 3) := by decide +kernel
theorem d_S_clearWords_21 : decode prog_2_method_15_code 21 = .ok (.goto (-19), 3) := by decide +kernel
theorem d_S_clearWords_24 : decode prog_2_method_15_code 24 = .ok (.return_, 1) := by decide +kernel
theorem d_S_give_0 : decode prog_2_method_16_code 0 = .ok (.aload_n 0, 1) := by decide +kernel
theorem d_S_give_1 : decode prog_2_method_16_code 1 = .ok (.getfield 15, 3) := by decide +kernel
theorem d_S_give_4 : decode prog_2_method_16_code 4 = .ok (.iload_n 1, 1) := by decide +kernel
theorem d_S_give_5 : decode prog_2_method_16_code 5 = .ok (.iload_n 2, 1) := by decide +kernel
theorem d_S_give_6 : decode prog_2_method_16_code 6 = .ok (.iastore, 1) := by decide +kernel
theorem d_S_give_7 : decode prog_2_method_16_code 7 = .ok (.aload_n 0, 1) := by decide +kernel
theorem d_S_give_8 : decode prog_2_method_16_code 8 = .ok (.getfield 24, 3) := by decide +kernel
theorem d_S_give_11 : decode prog_2_method_16_code 11 = .ok (.aload_n 0, 1) := by decide +kernel
theorem d_S_give_12 : decode prog_2_method_16_code 12 = .ok (.getfield 40, 3) := by decide +kernel
theorem d_S_give_15 : decode prog_2_method_16_code 15 = .ok (.iload_n 1, 1) := by decide +kernel
theorem d_S_give_16 : decode prog_2_method_16_code 16 = .ok (.iastore, 1) := by decide +kernel
theorem d_S_give_17 : decode prog_2_method_16_code 17 = .ok (.aload_n 0, 1) := by decide +kernel
theorem d_S_give_18 : decode prog_2_method_16_code 18 = .ok (.dup, 1) := by decide +kernel
theorem d_S_give_19 : decode prog_2_method_16_code 19 = .ok (.getfield 40, 3) := by decide +kernel
theorem d_S_give_22 : decode prog_2_method_16_code 22 = .ok (.iconst 1, 1) := by decide +kernel
theorem d_S_give_23 : decode prog_2_method_16_code 23 = .ok (.iadd, 1) := by decide +kernel
theorem d_S_give_24 : decode prog_2_method_16_code 24 = .ok (.putfield 40, 3) := by decide +kernel
theorem d_S_give_27 : decode prog_2_method_16_code 27 = .ok (.return_, 1) := by decide +kernel
theorem d_S_strongKey_0 : decode prog_2_method_7_code 0 = .ok (.sipush 1024, 3) := by decide +kernel
theorem d_S_strongKey_3 : decode prog_2_method_7_code 3 = .ok (.aload_n 0, 1) := by decide +kernel
theorem d_S_strongKey_4 : decode prog_2_method_7_code 4 = .ok (.getfield 9, 3) := by decide +kernel
theorem d_S_strongKey_7 : decode prog_2_method_7_code 7 = .ok (.iload_n 1, 1) := by decide +kernel
theorem d_S_strongKey_8 : decode prog_2_method_7_code 8 = .ok (.iaload, 1) := by decide +kernel
theorem d_S_strongKey_9 : decode prog_2_method_7_code 9 = .ok (.imul, 1) := by decide +kernel
theorem d_S_strongKey_10 : decode prog_2_method_7_code 10 = .ok (.iconst 2, 1) := by decide +kernel
theorem d_S_strongKey_11 : decode prog_2_method_7_code 11 = .ok (.iload_n 1, 1) := by decide +kernel
theorem d_S_strongKey_12 : decode prog_2_method_7_code 12 = .ok (.imul, 1) := by decide +kernel
theorem d_S_strongKey_13 : decode prog_2_method_7_code 13 = .ok (.iadd, 1) := by decide +kernel
theorem d_S_strongKey_14 : decode prog_2_method_7_code 14 = .ok (.ireturn, 1) := by decide +kernel
theorem d_S_isSameRun_0 : decode prog_2_method_5_code 0 = .ok (.iload_n 2, 1) := by decide +kernel
theorem d_S_isSameRun_1 : decode prog_2_method_5_code 1 = .ok (.sipush 192, 3) := by decide +kernel
theorem d_S_isSameRun_4 : decode prog_2_method_5_code 4 = .ok (.if_icmp .ge 30, 3) := by decide +kernel
theorem d_S_isSameRun_7 : decode prog_2_method_5_code 7 = .ok (.aload_n 0, 1) := by decide +kernel
theorem d_S_isSameRun_8 : decode prog_2_method_5_code 8 = .ok (.iload_n 2, 1) := by decide +kernel
theorem d_S_isSameRun_9 : decode prog_2_method_5_code 9 = .ok (.invokevirtual 36, 3) := by decide +kernel
theorem d_S_isSameRun_12 : decode prog_2_method_5_code 12 = .ok (.ifCond .eq 22, 3) := by decide +kernel
theorem d_S_isSameRun_15 : decode prog_2_method_5_code 15 = .ok (.aload_n 0, 1) := by decide +kernel
theorem d_S_isSameRun_16 : decode prog_2_method_5_code 16 = .ok (.getfield 18, 3) := by decide +kernel
theorem d_S_isSameRun_19 : decode prog_2_method_5_code 19 = .ok (.iload_n 2, 1) := by decide +kernel
theorem d_S_isSameRun_20 : decode prog_2_method_5_code 20 = .ok (.iaload, 1) := by decide +kernel
theorem d_S_isSameRun_21 : decode prog_2_method_5_code 21 = .ok (.aload_n 0, 1) := by decide +kernel
theorem d_S_isSameRun_22 : decode prog_2_method_5_code 22 = .ok (.getfield 18, 3) := by decide +kernel
theorem d_S_isSameRun_25 : decode prog_2_method_5_code 25 = .ok (.iload_n 1, 1) := by decide +kernel
theorem d_S_isSameRun_26 : decode prog_2_method_5_code 26 = .ok (.iaload, 1) := by decide +kernel
theorem d_S_isSameRun_27 : decode prog_2_method_5_code 27 = .ok (.if_icmp .ne 7, 3) := by decide +kernel
theorem d_S_isSameRun_30 : decode prog_2_method_5_code 30 = .ok (.iconst 1, 1) := by decide +kernel
theorem d_S_isSameRun_31 : decode prog_2_method_5_code 31 = .ok (.goto 4, 3) := by decide +kernel
theorem d_S_isSameRun_34 : decode prog_2_method_5_code 34 = .ok (.iconst 0, 1) := by decide +kernel
theorem d_S_isSameRun_35 : decode prog_2_method_5_code 35 = .ok (.ireturn, 1) := by decide +kernel
theorem d_S_vacate_0 : decode prog_2_method_17_code 0 = .ok (.aload_n 0, 1) := by decide +kernel
theorem d_S_vacate_1 : decode prog_2_method_17_code 1 = .ok (.getfield 15, 3) := by decide +kernel
theorem d_S_vacate_4 : decode prog_2_method_17_code 4 = .ok (.iload_n 1, 1) := by decide +kernel
theorem d_S_vacate_5 : decode prog_2_method_17_code 5 = .ok (.iconst (-1), 1) := by decide +kernel
theorem d_S_vacate_6 : decode prog_2_method_17_code 6 = .ok (.iastore, 1) := by decide +kernel
theorem d_S_vacate_7 : decode prog_2_method_17_code 7 = .ok (.return_, 1) := by decide +kernel
theorem d_S_closeGaps_0 : decode prog_2_method_18_code 0 = .ok (.iconst 0, 1) := by decide +kernel
theorem d_S_closeGaps_1 : decode prog_2_method_18_code 1 = .ok (.istore_n 1, 1) := by decide +kernel
theorem d_S_closeGaps_2 : decode prog_2_method_18_code 2 = .ok (.iconst 0, 1) := by decide +kernel
theorem d_S_closeGaps_3 : decode prog_2_method_18_code 3 = .ok (.istore_n 2, 1) := by decide +kernel
theorem d_S_closeGaps_4 : decode prog_2_method_18_code 4 = .ok (.iload_n 2, 1) := by decide +kernel
theorem d_S_closeGaps_5 : decode prog_2_method_18_code 5 = .ok (.aload_n 0, 1) := by decide +kernel
theorem d_S_closeGaps_6 : decode prog_2_method_18_code 6 = .ok (.getfield 40, 3) := by decide +kernel
theorem d_S_closeGaps_9 : decode prog_2_method_18_code 9 = .ok (.if_icmp .ge 37, 3) := by decide +kernel
theorem d_S_closeGaps_12 : decode prog_2_method_18_code 12 = .ok (.aload_n 0, 1) := by decide +kernel
theorem d_S_closeGaps_13 : decode prog_2_method_18_code 13 = .ok (.aload_n 0, 1) := by decide +kernel
theorem d_S_closeGaps_14 : decode prog_2_method_18_code 14 = .ok (.getfield 24, 3) := by decide +kernel
theorem d_S_closeGaps_17 : decode prog_2_method_18_code 17 = .ok (.iload_n 2, 1) := by decide +kernel
theorem d_S_closeGaps_18 : decode prog_2_method_18_code 18 = .ok (.iaload, 1) := by decide +kernel
theorem d_S_closeGaps_19 : decode prog_2_method_18_code 19 = .ok (.invokevirtual 36, 3) := by decide +kernel
theorem d_S_closeGaps_22 : decode prog_2_method_18_code 22 = .ok (.ifCond .eq 18, 3) := by decide +kernel
theorem d_S_closeGaps_25 : decode prog_2_method_18_code 25 = .ok (.aload_n 0, 1) := by decide +kernel
theorem d_S_closeGaps_26 : decode prog_2_method_18_code 26 = .ok (.getfield 24, 3) := by decide +kernel
theorem d_S_closeGaps_29 : decode prog_2_method_18_code 29 = .ok (.iload_n 1, 1) := by decide +kernel
theorem d_S_closeGaps_30 : decode prog_2_method_18_code 30 = .ok (.aload_n 0, 1) := by decide +kernel
theorem d_S_closeGaps_31 : decode prog_2_method_18_code 31 = .ok (.getfield 24, 3) := by decide +kernel
theorem d_S_closeGaps_34 : decode prog_2_method_18_code 34 = .ok (.iload_n 2, 1) := by decide +kernel
theorem d_S_closeGaps_35 : decode prog_2_method_18_code 35 = .ok (.iaload, 1) := by decide +kernel
theorem d_S_closeGaps_36 : decode prog_2_method_18_code 36 = .ok (.iastore, 1) := by decide +kernel
theorem d_S_closeGaps_37 : decode prog_2_method_18_code 37 = .ok (.iinc 1 1, 3) := by decide +kernel
theorem d_S_closeGaps_40 : decode prog_2_method_18_code 40 = .ok (.iinc 2 1, 3) := by decide +kernel
theorem d_S_closeGaps_43 : decode prog_2_method_18_code 43 = .ok (.goto (-39), 3) := by decide +kernel
theorem d_S_closeGaps_46 : decode prog_2_method_18_code 46 = .ok (.aload_n 0, 1) := by decide +kernel
theorem d_S_closeGaps_47 : decode prog_2_method_18_code 47 = .ok (.iload_n 1, 1) := by decide +kernel
theorem d_S_closeGaps_48 : decode prog_2_method_18_code 48 = .ok (.putfield 40, 3) := by decide +kernel
theorem d_S_closeGaps_51 : decode prog_2_method_18_code 51 = .ok (.return_, 1) := by decide +kernel
theorem d_S_wordAt_0 : decode prog_2_method_8_code 0 = .ok (.aload_n 0, 1) := by decide +kernel
theorem d_S_wordAt_1 : decode prog_2_method_8_code 1 = .ok (.getfield 21, 3) := by decide +kernel
theorem d_S_wordAt_4 : decode prog_2_method_8_code 4 = .ok (.iload_n 1, 1) := by decide +kernel
theorem d_S_wordAt_5 : decode prog_2_method_8_code 5 = .ok (.iconst 4, 1) := by decide +kernel
theorem d_S_wordAt_6 : decode prog_2_method_8_code 6 = .ok (.imul, 1) := by decide +kernel
theorem d_S_wordAt_7 : decode prog_2_method_8_code 7 = .ok (.iload_n 2, 1) := by decide +kernel
theorem d_S_wordAt_8 : decode prog_2_method_8_code 8 = .ok (.iadd, 1) := by decide +kernel
theorem d_S_wordAt_9 : decode prog_2_method_8_code 9 = .ok (.iaload, 1) := by decide +kernel
theorem d_S_wordAt_10 : decode prog_2_method_8_code 10 = .ok (.ireturn, 1) := by decide +kernel
theorem d_S_replaceWord_0 : decode prog_2_method_9_code 0 = .ok (.aload_n 0, 1) := by decide +kernel
theorem d_S_replaceWord_1 : decode prog_2_method_9_code 1 = .ok (.getfield 21, 3) := by decide +kernel
theorem d_S_replaceWord_4 : decode prog_2_method_9_code 4 = .ok (.iload_n 1, 1) := by decide +kernel
theorem d_S_replaceWord_5 : decode prog_2_method_9_code 5 = .ok (.iconst 4, 1) := by decide +kernel
theorem d_S_replaceWord_6 : decode prog_2_method_9_code 6 = .ok (.imul, 1) := by decide +kernel
theorem d_S_replaceWord_7 : decode prog_2_method_9_code 7 = .ok (.iload_n 2, 1) := by decide +kernel
theorem d_S_replaceWord_8 : decode prog_2_method_9_code 8 = .ok (.iadd, 1) := by decide +kernel
theorem d_S_replaceWord_9 : decode prog_2_method_9_code 9 = .ok (.iaload, 1) := by decide +kernel
theorem d_S_replaceWord_10 : decode prog_2_method_9_code 10 = .ok (.istore 4, 2) := by decide +kernel
theorem d_S_replaceWord_12 : decode prog_2_method_9_code 12 = .ok (.aload_n 0, 1) := by decide +kernel
theorem d_S_replaceWord_13 : decode prog_2_method_9_code 13 = .ok (.getfield 21, 3) := by decide +kernel
theorem d_S_replaceWord_16 : decode prog_2_method_9_code 16 = .ok (.iload_n 1, 1) := by decide +kernel
theorem d_S_replaceWord_17 : decode prog_2_method_9_code 17 = .ok (.iconst 4, 1) := by decide +kernel
theorem d_S_replaceWord_18 : decode prog_2_method_9_code 18 = .ok (.imul, 1) := by decide +kernel
theorem d_S_replaceWord_19 : decode prog_2_method_9_code 19 = .ok (.iload_n 2, 1) := by decide +kernel
theorem d_S_replaceWord_20 : decode prog_2_method_9_code 20 = .ok (.iadd, 1) := by decide +kernel
theorem d_S_replaceWord_21 : decode prog_2_method_9_code 21 = .ok (.iload_n 3, 1) := by decide +kernel
theorem d_S_replaceWord_22 : decode prog_2_method_9_code 22 = .ok (.iastore, 1) := by decide +kernel
theorem d_S_replaceWord_23 : decode prog_2_method_9_code 23 = .ok (.iload 4, 2) := by decide +kernel
theorem d_S_replaceWord_25 : decode prog_2_method_9_code 25 = .ok (.ireturn, 1) := by decide +kernel
theorem d_S_giveAll_0 : decode prog_2_method_19_code 0 = .ok (.iconst 0, 1) := by decide +kernel
theorem d_S_giveAll_1 : decode prog_2_method_19_code 1 = .ok (.istore_n 3, 1) := by decide +kernel
theorem d_S_giveAll_2 : decode prog_2_method_19_code 2 = .ok (.iconst 0, 1) := by decide +kernel
theorem d_S_giveAll_3 : decode prog_2_method_19_code 3 = .ok (.istore 4, 2) := by decide +kernel
theorem d_S_giveAll_5 : decode prog_2_method_19_code 5 = .ok (.iconst 0, 1) := by decide +kernel
theorem d_S_giveAll_6 : decode prog_2_method_19_code 6 = .ok (.istore 5, 2) := by decide +kernel
theorem d_S_giveAll_8 : decode prog_2_method_19_code 8 = .ok (.iload 5, 2) := by decide +kernel
theorem d_S_giveAll_10 : decode prog_2_method_19_code 10 = .ok (.aload_n 0, 1) := by decide +kernel
theorem d_S_giveAll_11 : decode prog_2_method_19_code 11 = .ok (.getfield 40, 3) := by decide +kernel
theorem d_S_giveAll_14 : decode prog_2_method_19_code 14 = .ok (.if_icmp .ge 63, 3) := by decide +kernel
theorem d_S_giveAll_17 : decode prog_2_method_19_code 17 = .ok (.aload_n 0, 1) := by decide +kernel
theorem d_S_giveAll_18 : decode prog_2_method_19_code 18 = .ok (.getfield 24, 3) := by decide +kernel
theorem d_S_giveAll_21 : decode prog_2_method_19_code 21 = .ok (.iload 5, 2) := by decide +kernel
theorem d_S_giveAll_23 : decode prog_2_method_19_code 23 = .ok (.iaload, 1) := by decide +kernel
theorem d_S_giveAll_24 : decode prog_2_method_19_code 24 = .ok (.istore 6, 2) := by decide +kernel
theorem d_S_giveAll_26 : decode prog_2_method_19_code 26 = .ok (.aload_n 0, 1) := by decide +kernel
theorem d_S_giveAll_27 : decode prog_2_method_19_code 27 = .ok (.getfield 15, 3) := by decide +kernel
theorem d_S_giveAll_30 : decode prog_2_method_19_code 30 = .ok (.iload 6, 2) := by decide +kernel
theorem d_S_giveAll_32 : decode prog_2_method_19_code 32 = .ok (.iaload, 1) := by decide +kernel
theorem d_S_giveAll_33 : decode prog_2_method_19_code 33 = .ok (.iload_n 1, 1) := by decide +kernel
theorem d_S_giveAll_34 : decode prog_2_method_19_code 34 = .ok (.if_icmp .ne 26, 3) := by decide +kernel
theorem d_S_giveAll_37 : decode prog_2_method_19_code 37 = .ok (.aload_n 0, 1) := by decide +kernel
theorem d_S_giveAll_38 : decode prog_2_method_19_code 38 = .ok (.getfield 15, 3) := by decide +kernel
theorem d_S_giveAll_41 : decode prog_2_method_19_code 41 = .ok (.iload 6, 2) := by decide +kernel
theorem d_S_giveAll_43 : decode prog_2_method_19_code 43 = .ok (.iload_n 2, 1) := by decide +kernel
theorem d_S_giveAll_44 : decode prog_2_method_19_code 44 = .ok (.iastore, 1) := by decide +kernel
theorem d_S_giveAll_45 : decode prog_2_method_19_code 45 = .ok (.aload_n 0, 1) := by decide +kernel
theorem d_S_giveAll_46 : decode prog_2_method_19_code 46 = .ok (.getfield 27, 3) := by decide +kernel
theorem d_S_giveAll_49 : decode prog_2_method_19_code 49 = .ok (.iload 4, 2) := by decide +kernel
theorem d_S_giveAll_51 : decode prog_2_method_19_code 51 = .ok (.iload 6, 2) := by decide +kernel
theorem d_S_giveAll_53 : decode prog_2_method_19_code 53 = .ok (.iastore, 1) := by decide +kernel
theorem d_S_giveAll_54 : decode prog_2_method_19_code 54 = .ok (.iinc 4 1, 3) := by decide +kernel
theorem d_S_giveAll_57 : decode prog_2_method_19_code 57 = .ok (.goto 14, 3) := by decide +kernel
theorem d_S_giveAll_60 : decode prog_2_method_19_code 60 = .ok (.aload_n 0, 1) := by decide +kernel
theorem d_S_giveAll_61 : decode prog_2_method_19_code 61 = .ok (.getfield 24, 3) := by decide +kernel
theorem d_S_giveAll_64 : decode prog_2_method_19_code 64 = .ok (.iload_n 3, 1) := by decide +kernel
theorem d_S_giveAll_65 : decode prog_2_method_19_code 65 = .ok (.iload 6, 2) := by decide +kernel
theorem d_S_giveAll_67 : decode prog_2_method_19_code 67 = .ok (.iastore, 1) := by decide +kernel
theorem d_S_giveAll_68 : decode prog_2_method_19_code 68 = .ok (.iinc 3 1, 3) := by decide +kernel
theorem d_S_giveAll_71 : decode prog_2_method_19_code 71 = .ok (.iinc 5 1, 3) := by decide +kernel
theorem d_S_giveAll_74 : decode prog_2_method_19_code 74 = .ok (.goto (-66), 3) := by decide +kernel
theorem d_S_giveAll_77 : decode prog_2_method_19_code 77 = .ok (.aload_n 0, 1) := by decide +kernel
theorem d_S_giveAll_78 : decode prog_2_method_19_code 78 = .ok (.getfield 27, 3) := by decide +kernel
theorem d_S_giveAll_81 : decode prog_2_method_19_code 81 = .ok (.iconst 0, 1) := by decide +kernel
theorem d_S_giveAll_82 : decode prog_2_method_19_code 82 = .ok (.aload_n 0, 1) := by decide +kernel
theorem d_S_giveAll_83 : decode prog_2_method_19_code 83 = .ok (.getfield 24, 3) := by decide +kernel
theorem d_S_giveAll_86 : decode prog_2_method_19_code 86 = .ok (.iload_n 3, 1) := by decide +kernel
theorem d_S_giveAll_87 : decode prog_2_method_19_code 87 = .ok (.iload 4, 2) := by decide +kernel
theorem d_S_giveAll_89 : decode prog_2_method_19_code 89 = .ok (.invokestatic 62, 3) := by decide +kernel
theorem d_S_giveAll_92 : decode prog_2_method_19_code 92 = .ok (.return_, 1) := by decide +kernel
theorem d_S_placeOfOwned_0 : decode prog_2_method_21_code 0 = .ok (.iconst 0, 1) := by decide +kernel
theorem d_S_placeOfOwned_1 : decode prog_2_method_21_code 1 = .ok (.istore_n 3, 1) := by decide +kernel
theorem d_S_placeOfOwned_2 : decode prog_2_method_21_code 2 = .ok (.iconst 0, 1) := by decide +kernel
theorem d_S_placeOfOwned_3 : decode prog_2_method_21_code 3 = .ok (.istore 4, 2) := by decide +kernel
theorem d_S_placeOfOwned_5 : decode prog_2_method_21_code 5 = .ok (.iload 4, 2) := by decide +kernel
theorem d_S_placeOfOwned_7 : decode prog_2_method_21_code 7 = .ok (.aload_n 0, 1) := by decide +kernel
theorem d_S_placeOfOwned_8 : decode prog_2_method_21_code 8 = .ok (.getfield 40, 3) := by decide +kernel
theorem d_S_placeOfOwned_11 : decode prog_2_method_21_code 11 = .ok (.if_icmp .ge 41, 3) := by decide +kernel
theorem d_S_placeOfOwned_14 : decode prog_2_method_21_code 14 = .ok (.aload_n 0, 1) := by decide +kernel
theorem d_S_placeOfOwned_15 : decode prog_2_method_21_code 15 = .ok (.getfield 15, 3) := by decide +kernel
theorem d_S_placeOfOwned_18 : decode prog_2_method_21_code 18 = .ok (.aload_n 0, 1) := by decide +kernel
theorem d_S_placeOfOwned_19 : decode prog_2_method_21_code 19 = .ok (.getfield 24, 3) := by decide +kernel
theorem d_S_placeOfOwned_22 : decode prog_2_method_21_code 22 = .ok (.iload 4, 2) := by decide +kernel
theorem d_S_placeOfOwned_24 : decode prog_2_method_21_code 24 = .ok (.iaload, 1) := by decide +kernel
theorem d_S_placeOfOwned_25 : decode prog_2_method_21_code 25 = .ok (.iaload, 1) := by decide +kernel
theorem d_S_placeOfOwned_26 : decode prog_2_method_21_code 26 = .ok (.iload_n 1, 1) := by decide +kernel
theorem d_S_placeOfOwned_27 : decode prog_2_method_21_code 27 = .ok (.if_icmp .ne 19, 3) := by decide +kernel
theorem d_S_placeOfOwned_30 : decode prog_2_method_21_code 30 = .ok (.iload_n 3, 1) := by decide +kernel
theorem d_S_placeOfOwned_31 : decode prog_2_method_21_code 31 = .ok (.iload_n 2, 1) := by decide +kernel
theorem d_S_placeOfOwned_32 : decode prog_2_method_21_code 32 = .ok (.if_icmp .ne 11, 3) := by decide +kernel
theorem d_S_placeOfOwned_35 : decode prog_2_method_21_code 35 = .ok (.aload_n 0, 1) := by decide +kernel
theorem d_S_placeOfOwned_36 : decode prog_2_method_21_code 36 = .ok (.getfield 24, 3) := by decide +kernel
theorem d_S_placeOfOwned_39 : decode prog_2_method_21_code 39 = .ok (.iload 4, 2) := by decide +kernel
theorem d_S_placeOfOwned_41 : decode prog_2_method_21_code 41 = .ok (.iaload, 1) := by decide +kernel
theorem d_S_placeOfOwned_42 : decode prog_2_method_21_code 42 = .ok (.ireturn, 1) := by decide +kernel
theorem d_S_placeOfOwned_43 : decode prog_2_method_21_code 43 = .ok (.iinc 3 1, 3) := by decide +kernel
theorem d_S_placeOfOwned_46 : decode prog_2_method_21_code 46 = .ok (.iinc 4 1, 3) := by decide +kernel
theorem d_S_placeOfOwned_49 : decode prog_2_method_21_code 49 = .ok (.goto (-44), 3) := by decide +kernel
theorem d_S_placeOfOwned_52 : decode prog_2_method_21_code 52 = .ok (.iconst (-1), 1) := by decide +kernel
theorem d_S_placeOfOwned_53 : decode prog_2_method_21_code 53 = .ok (.ireturn, 1) := by decide +kernel
