theorem dk_J6_compare_7cf53_0 : decode cJ6_compare_7cf53 0 = .ok (.iload_n 0, 1) := by decide +kernel
theorem dk_J6_compare_7cf53_1 : decode cJ6_compare_7cf53 1 = .ok (.iload_n 1, 1) := by decide +kernel
theorem dk_J6_compare_7cf53_2 : decode cJ6_compare_7cf53 2 = .ok (.if_icmp .ge 7, 3) := by decide +kernel
theorem dk_J6_compare_7cf53_5 : decode cJ6_compare_7cf53 5 = .ok (.iconst (-1), 1) := by decide +kernel
theorem dk_J6_compare_7cf53_6 : decode cJ6_compare_7cf53 6 = .ok (.goto 13, 3) := by decide +kernel
theorem dk_J6_compare_7cf53_9 : decode cJ6_compare_7cf53 9 = .ok (.iload_n 0, 1) := by decide +kernel
theorem dk_J6_compare_7cf53_10 : decode cJ6_compare_7cf53 10 = .ok (.iload_n 1, 1) := by decide +kernel
theorem dk_J6_compare_7cf53_11 : decode cJ6_compare_7cf53 11 = .ok (.if_icmp .ne 7, 3) := by decide +kernel
theorem dk_J6_compare_7cf53_14 : decode cJ6_compare_7cf53 14 = .ok (.iconst 0, 1) := by decide +kernel
theorem dk_J6_compare_7cf53_15 : decode cJ6_compare_7cf53 15 = .ok (.goto 4, 3) := by decide +kernel
theorem dk_J6_compare_7cf53_18 : decode cJ6_compare_7cf53 18 = .ok (.iconst 1, 1) := by decide +kernel
theorem dk_J6_compare_7cf53_19 : decode cJ6_compare_7cf53 19 = .ok (.ireturn, 1) := by decide +kernel
theorem dk_J9_floorDiv_7cf53_0 : decode cJ9_floorDiv_7cf53 0 = .ok (.iload_n 0, 1) := by decide +kernel
theorem dk_J9_floorDiv_7cf53_1 : decode cJ9_floorDiv_7cf53 1 = .ok (.iload_n 1, 1) := by decide +kernel
theorem dk_J9_floorDiv_7cf53_2 : decode cJ9_floorDiv_7cf53 2 = .ok (.idiv, 1) := by decide +kernel
theorem dk_J9_floorDiv_7cf53_3 : decode cJ9_floorDiv_7cf53 3 = .ok (.istore_n 2, 1) := by decide +kernel
theorem dk_J9_floorDiv_7cf53_4 : decode cJ9_floorDiv_7cf53 4 = .ok (.iload_n 0, 1) := by decide +kernel
theorem dk_J9_floorDiv_7cf53_5 : decode cJ9_floorDiv_7cf53 5 = .ok (.iload_n 1, 1) := by decide +kernel
theorem dk_J9_floorDiv_7cf53_6 : decode cJ9_floorDiv_7cf53 6 = .ok (.ixor, 1) := by decide +kernel
theorem dk_J9_floorDiv_7cf53_7 : decode cJ9_floorDiv_7cf53 7 = .ok (.ifCond .ge 14, 3) := by decide +kernel
theorem dk_J9_floorDiv_7cf53_10 : decode cJ9_floorDiv_7cf53 10 = .ok (.iload_n 2, 1) := by decide +kernel
theorem dk_J9_floorDiv_7cf53_11 : decode cJ9_floorDiv_7cf53 11 = .ok (.iload_n 1, 1) := by decide +kernel
theorem dk_J9_floorDiv_7cf53_12 : decode cJ9_floorDiv_7cf53 12 = .ok (.imul, 1) := by decide +kernel
theorem dk_J9_floorDiv_7cf53_13 : decode cJ9_floorDiv_7cf53 13 = .ok (.iload_n 0, 1) := by decide +kernel
theorem dk_J9_floorDiv_7cf53_14 : decode cJ9_floorDiv_7cf53 14 = .ok (.if_icmp .eq 7, 3) := by decide +kernel
theorem dk_J9_floorDiv_7cf53_17 : decode cJ9_floorDiv_7cf53 17 = .ok (.iload_n 2, 1) := by decide +kernel
theorem dk_J9_floorDiv_7cf53_18 : decode cJ9_floorDiv_7cf53 18 = .ok (.iconst 1, 1) := by decide +kernel
theorem dk_J9_floorDiv_7cf53_19 : decode cJ9_floorDiv_7cf53 19 = .ok (.isub, 1) := by decide +kernel
theorem dk_J9_floorDiv_7cf53_20 : decode cJ9_floorDiv_7cf53 20 = .ok (.ireturn, 1) := by decide +kernel
theorem dk_J9_floorDiv_7cf53_21 : decode cJ9_floorDiv_7cf53 21 = .ok (.iload_n 2, 1) := by decide +kernel
theorem dk_J9_floorDiv_7cf53_22 : decode cJ9_floorDiv_7cf53 22 = .ok (.ireturn, 1) := by decide +kernel
theorem dk_J9_min_7cf53_0 : decode cJ9_min_7cf53 0 = .ok (.iload_n 0, 1) := by decide +kernel
theorem dk_J9_min_7cf53_1 : decode cJ9_min_7cf53 1 = .ok (.iload_n 1, 1) := by decide +kernel
theorem dk_J9_min_7cf53_2 : decode cJ9_min_7cf53 2 = .ok (.if_icmp .gt 7, 3) := by decide +kernel
theorem dk_J9_min_7cf53_5 : decode cJ9_min_7cf53 5 = .ok (.iload_n 0, 1) := by decide +kernel
theorem dk_J9_min_7cf53_6 : decode cJ9_min_7cf53 6 = .ok (.goto 4, 3) := by decide +kernel
theorem dk_J9_min_7cf53_9 : decode cJ9_min_7cf53 9 = .ok (.iload_n 1, 1) := by decide +kernel
theorem dk_J9_min_7cf53_10 : decode cJ9_min_7cf53 10 = .ok (.ireturn, 1) := by decide +kernel
theorem dk_X2_add_0 : decode cX2_add 0 = .ok (.aload_n 0, 1) := by decide +kernel
theorem dk_X2_add_1 : decode cX2_add 1 = .ok (.getfield 15, 3) := by decide +kernel
theorem dk_X2_add_4 : decode cX2_add 4 = .ok (.ifCond .ne 7, 3) := by decide +kernel
theorem dk_X2_add_7 : decode cX2_add 7 = .ok (.iconst 1, 1) := by decide +kernel
theorem dk_X2_add_8 : decode cX2_add 8 = .ok (.goto 4, 3) := by decide +kernel
theorem dk_X2_add_11 : decode cX2_add 11 = .ok (.iconst 0, 1) := by decide +kernel
theorem dk_X2_add_12 : decode cX2_add 12 = .ok (.istore_n 2, 1) := by decide +kernel
theorem dk_X2_add_13 : decode cX2_add 13 = .ok (.aload_n 0, 1) := by decide +kernel
theorem dk_X2_add_14 : decode cX2_add 14 = .ok (.iload_n 1, 1) := by decide +kernel
theorem dk_X2_add_15 : decode cX2_add 15 = .ok (.invokevirtual 19, 3) := by decide +kernel
theorem dk_X2_add_18 : decode cX2_add 18 = .ok (.iload_n 2, 1) := by decide +kernel
theorem dk_X2_add_19 : decode cX2_add 19 = .ok (.ifCond .eq 20, 3) := by decide +kernel
theorem dk_X2_add_22 : decode cX2_add 22 = .ok (.aload_n 0, 1) := by decide +kernel
theorem dk_X2_add_23 : decode cX2_add 23 = .ok (.aload_n 0, 1) := by decide +kernel
theorem dk_X2_add_24 : decode cX2_add 24 = .ok (.invokevirtual 23, 3) := by decide +kernel
theorem dk_X2_add_27 : decode cX2_add 27 = .ok (.putfield 27, 3) := by decide +kernel
theorem dk_X2_add_30 : decode cX2_add 30 = .ok (.aload_n 0, 1) := by decide +kernel
theorem dk_X2_add_31 : decode cX2_add 31 = .ok (.aload_n 0, 1) := by decide +kernel
theorem dk_X2_add_32 : decode cX2_add 32 = .ok (.getfield 27, 3) := by decide +kernel
theorem dk_X2_add_35 : decode cX2_add 35 = .ok (.putfield 30, 3) := by decide +kernel
theorem dk_X2_add_38 : decode cX2_add 38 = .ok (.return_, 1) := by decide +kernel
theorem dk_X2_add_39 : decode cX2_add 39 = .ok (.aload_n 0, 1) := by decide +kernel
theorem dk_X2_add_40 : decode cX2_add 40 = .ok (.aload_n 0, 1) := by decide +kernel
theorem dk_X2_add_41 : decode cX2_add 41 = .ok (.iload_n 1, 1) := by decide +kernel
theorem dk_X2_add_42 : decode cX2_add 42 = .ok (.invokevirtual 33, 3) := by decide +kernel
theorem dk_X2_add_45 : decode cX2_add 45 = .ok (.invokevirtual 37, 3) := by decide +kernel
theorem dk_X2_add_48 : decode cX2_add 48 = .ok (.aload_n 0, 1) := by decide +kernel
theorem dk_X2_add_49 : decode cX2_add 49 = .ok (.aload_n 0, 1) := by decide +kernel
theorem dk_X2_add_50 : decode cX2_add 50 = .ok (.aload_n 0, 1) := by decide +kernel
theorem dk_X2_add_51 : decode cX2_add 51 = .ok (.invokevirtual 23, 3) := by decide +kernel
theorem dk_X2_add_54 : decode cX2_add 54 = .ok (.invokevirtual 40, 3) := by decide +kernel
theorem dk_X2_add_57 : decode cX2_add 57 = .ok (.putfield 27, 3) := by decide +kernel
theorem dk_X2_add_60 : decode cX2_add 60 = .ok (.aload_n 0, 1) := by decide +kernel
theorem dk_X2_add_61 : decode cX2_add 61 = .ok (.aload_n 0, 1) := by decide +kernel
theorem dk_X2_add_62 : decode cX2_add 62 = .ok (.getfield 30, 3) := by decide +kernel
theorem dk_X2_add_65 : decode cX2_add 65 = .ok (.aload_n 0, 1) := by decide +kernel
theorem dk_X2_add_66 : decode cX2_add 66 = .ok (.getfield 27, 3) := by decide +kernel
theorem dk_X2_add_69 : decode cX2_add 69 = .ok (.invokestatic 43, 3) := by decide +kernel
theorem dk_X2_add_72 : decode cX2_add 72 = .ok (.putfield 30, 3) := by decide +kernel
theorem dk_X2_add_75 : decode cX2_add 75 = .ok (.return_, 1) := by decide +kernel
theorem dk_X2_bounded_0 : decode cX2_bounded 0 = .ok (.iload_n 1, 1) := by decide +kernel
theorem dk_X2_bounded_1 : decode cX2_bounded 1 = .ok (.aload_n 0, 1) := by decide +kernel
theorem dk_X2_bounded_2 : decode cX2_bounded 2 = .ok (.getfield 30, 3) := by decide +kernel
theorem dk_X2_bounded_5 : decode cX2_bounded 5 = .ok (.isub, 1) := by decide +kernel
theorem dk_X2_bounded_6 : decode cX2_bounded 6 = .ok (.istore_n 2, 1) := by decide +kernel
theorem dk_X2_bounded_7 : decode cX2_bounded 7 = .ok (.iload_n 2, 1) := by decide +kernel
theorem dk_X2_bounded_8 : decode cX2_bounded 8 = .ok (.bipush 30, 2) := by decide +kernel
theorem dk_X2_bounded_10 : decode cX2_bounded 10 = .ok (.if_icmp .gt 5, 3) := by decide +kernel
theorem dk_X2_bounded_13 : decode cX2_bounded 13 = .ok (.iload_n 1, 1) := by decide +kernel
theorem dk_X2_bounded_14 : decode cX2_bounded 14 = .ok (.ireturn, 1) := by decide +kernel
theorem dk_X2_bounded_15 : decode cX2_bounded 15 = .ok (.aload_n 0, 1) := by decide +kernel
theorem dk_X2_bounded_16 : decode cX2_bounded 16 = .ok (.getfield 30, 3) := by decide +kernel
theorem dk_X2_bounded_19 : decode cX2_bounded 19 = .ok (.bipush 50, 2) := by decide +kernel
theorem dk_X2_bounded_21 : decode cX2_bounded 21 = .ok (.bipush 30, 2) := by decide +kernel
theorem dk_X2_bounded_23 : decode cX2_bounded 23 = .ok (.iload_n 2, 1) := by decide +kernel
theorem dk_X2_bounded_24 : decode cX2_bounded 24 = .ok (.bipush 30, 2) := by decide +kernel
theorem dk_X2_bounded_26 : decode cX2_bounded 26 = .ok (.isub, 1) := by decide +kernel
theorem dk_X2_bounded_27 : decode cX2_bounded 27 = .ok (.iconst 2, 1) := by decide +kernel
theorem dk_X2_bounded_28 : decode cX2_bounded 28 = .ok (.idiv, 1) := by decide +kernel
theorem dk_X2_bounded_29 : decode cX2_bounded 29 = .ok (.iadd, 1) := by decide +kernel
theorem dk_X2_bounded_30 : decode cX2_bounded 30 = .ok (.invokestatic 43, 3) := by decide +kernel
theorem dk_X2_bounded_33 : decode cX2_bounded 33 = .ok (.iadd, 1) := by decide +kernel
theorem dk_X2_bounded_34 : decode cX2_bounded 34 = .ok (.ireturn, 1) := by decide +kernel
theorem dk_X2_differenceAt_0 : decode cX2_differenceAt 0 = .ok (.iload_n 1, 1) := by decide +kernel
theorem dk_X2_differenceAt_1 : decode cX2_differenceAt 1 = .ok (.ifCond .lt 18, 3) := by decide +kernel
theorem dk_X2_differenceAt_4 : decode cX2_differenceAt 4 = .ok (.iload_n 1, 1) := by decide +kernel
theorem dk_X2_differenceAt_5 : decode cX2_differenceAt 5 = .ok (.bipush 20, 2) := by decide +kernel
theorem dk_X2_differenceAt_7 : decode cX2_differenceAt 7 = .ok (.if_icmp .ge 12, 3) := by decide +kernel
theorem dk_X2_differenceAt_10 : decode cX2_differenceAt 10 = .ok (.aload_n 0, 1) := by decide +kernel
theorem dk_X2_differenceAt_11 : decode cX2_differenceAt 11 = .ok (.getfield 9, 3) := by decide +kernel
theorem dk_X2_differenceAt_14 : decode cX2_differenceAt 14 = .ok (.iload_n 1, 1) := by decide +kernel
theorem dk_X2_differenceAt_15 : decode cX2_differenceAt 15 = .ok (.iaload, 1) := by decide +kernel
theorem dk_X2_differenceAt_16 : decode cX2_differenceAt 16 = .ok (.goto 4, 3) := by decide +kernel
theorem dk_X2_differenceAt_20 : decode cX2_differenceAt 20 = .ok (.ireturn, 1) := by decide +kernel
theorem dk_X2_howManyAhead_0 : decode cX2_howManyAhead 0 = .ok (.iconst 0, 1) := by decide +kernel
theorem dk_X2_howManyAhead_1 : decode cX2_howManyAhead 1 = .ok (.istore_n 2, 1) := by decide +kernel
theorem dk_X2_howManyAhead_2 : decode cX2_howManyAhead 2 = .ok (.iconst 0, 1) := by decide +kernel
theorem dk_X2_howManyAhead_3 : decode cX2_howManyAhead 3 = .ok (.istore_n 3, 1) := by decide +kernel
theorem dk_X2_howManyAhead_4 : decode cX2_howManyAhead 4 = .ok (.iload_n 3, 1) := by decide +kernel
theorem dk_X2_howManyAhead_5 : decode cX2_howManyAhead 5 = .ok (.aload_n 0, 1) := by decide +kernel
theorem dk_X2_howManyAhead_6 : decode cX2_howManyAhead 6 = .ok (.getfield 15, 3) := by decide +kernel
theorem dk_X2_howManyAhead_9 : decode cX2_howManyAhead 9 = .ok (.if_icmp .ge 42, 3) := by decide +kernel
theorem dk_X2_howManyAhead_12 : decode cX2_howManyAhead 12 = .ok (.aload_n 0, 1) := by decide +kernel
theorem dk_X2_howManyAhead_13 : decode cX2_howManyAhead 13 = .ok (.iload_n 3, 1) := by decide +kernel
theorem dk_X2_howManyAhead_14 : decode cX2_howManyAhead 14 = .ok (.invokevirtual 55, 3) := by decide +kernel
theorem dk_X2_howManyAhead_17 : decode cX2_howManyAhead 17 = .ok (.aload_n 0, 1) := by decide +kernel
theorem dk_X2_howManyAhead_18 : decode cX2_howManyAhead 18 = .ok (.iload_n 1, 1) := by decide +kernel
theorem dk_X2_howManyAhead_19 : decode cX2_howManyAhead 19 = .ok (.invokevirtual 55, 3) := by decide +kernel
theorem dk_X2_howManyAhead_22 : decode cX2_howManyAhead 22 = .ok (.invokestatic 61, 3) := by decide +kernel
theorem dk_X2_howManyAhead_25 : decode cX2_howManyAhead 25 = .ok (.istore 4, 2) := by decide +kernel
theorem dk_X2_howManyAhead_27 : decode cX2_howManyAhead 27 = .ok (.iload 4, 2) := by decide +kernel
theorem dk_X2_howManyAhead_29 : decode cX2_howManyAhead 29 = .ok (.ifCond .lt 13, 3) := by decide +kernel
theorem dk_X2_howManyAhead_32 : decode cX2_howManyAhead 32 = .ok (.iload 4, 2) := by decide +kernel
theorem dk_X2_howManyAhead_34 : decode cX2_howManyAhead 34 = .ok (.ifCond .ne 11, 3) := by decide +kernel
theorem dk_X2_howManyAhead_37 : decode cX2_howManyAhead 37 = .ok (.iload_n 3, 1) := by decide +kernel
theorem dk_X2_howManyAhead_38 : decode cX2_howManyAhead 38 = .ok (.iload_n 1, 1) := by decide +kernel
theorem dk_X2_howManyAhead_39 : decode cX2_howManyAhead 39 = .ok (.if_icmp .ge 6, 3) := by decide +kernel
theorem dk_X2_howManyAhead_42 : decode cX2_howManyAhead 42 = .ok (.iinc 2 1, 3) := by decide +kernel
theorem dk_X2_howManyAhead_45 : decode cX2_howManyAhead 45 = .ok (.iinc 3 1, 3) := by decide +kernel
theorem dk_X2_howManyAhead_48 : decode cX2_howManyAhead 48 = .ok (.goto (-44), 3) := by decide +kernel
theorem dk_X2_howManyAhead_51 : decode cX2_howManyAhead 51 = .ok (.iload_n 2, 1) := by decide +kernel
theorem dk_X2_howManyAhead_52 : decode cX2_howManyAhead 52 = .ok (.ireturn, 1) := by decide +kernel
theorem dk_X2_howManyCount_0 : decode cX2_howManyCount 0 = .ok (.aload_n 0, 1) := by decide +kernel
theorem dk_X2_howManyCount_1 : decode cX2_howManyCount 1 = .ok (.getfield 15, 3) := by decide +kernel
theorem dk_X2_howManyCount_4 : decode cX2_howManyCount 4 = .ok (.bipush 19, 2) := by decide +kernel
theorem dk_X2_howManyCount_6 : decode cX2_howManyCount 6 = .ok (.if_icmp .lt 11, 3) := by decide +kernel
theorem dk_X2_howManyCount_9 : decode cX2_howManyCount 9 = .ok (.aload_n 0, 1) := by decide +kernel
theorem dk_X2_howManyCount_10 : decode cX2_howManyCount 10 = .ok (.getfield 15, 3) := by decide +kernel
theorem dk_X2_howManyCount_13 : decode cX2_howManyCount 13 = .ok (.bipush 12, 2) := by decide +kernel
theorem dk_X2_howManyCount_15 : decode cX2_howManyCount 15 = .ok (.isub, 1) := by decide +kernel
theorem dk_X2_howManyCount_16 : decode cX2_howManyCount 16 = .ok (.ireturn, 1) := by decide +kernel
theorem dk_X2_howManyCount_17 : decode cX2_howManyCount 17 = .ok (.aload_n 0, 1) := by decide +kernel
theorem dk_X2_howManyCount_18 : decode cX2_howManyCount 18 = .ok (.getfield 15, 3) := by decide +kernel
theorem dk_X2_howManyCount_21 : decode cX2_howManyCount 21 = .ok (.bipush 15, 2) := by decide +kernel
theorem dk_X2_howManyCount_23 : decode cX2_howManyCount 23 = .ok (.if_icmp .lt 19, 3) := by decide +kernel
theorem dk_X2_howManyCount_26 : decode cX2_howManyCount 26 = .ok (.aload_n 0, 1) := by decide +kernel
theorem dk_X2_howManyCount_27 : decode cX2_howManyCount 27 = .ok (.getfield 15, 3) := by decide +kernel
theorem dk_X2_howManyCount_30 : decode cX2_howManyCount 30 = .ok (.bipush 17, 2) := by decide +kernel
theorem dk_X2_howManyCount_32 : decode cX2_howManyCount 32 = .ok (.if_icmp .lt 8, 3) := by decide +kernel
theorem dk_X2_howManyCount_35 : decode cX2_howManyCount 35 = .ok (.bipush 6, 2) := by decide +kernel
theorem dk_X2_howManyCount_37 : decode cX2_howManyCount 37 = .ok (.goto 4, 3) := by decide +kernel
theorem dk_X2_howManyCount_40 : decode cX2_howManyCount 40 = .ok (.iconst 5, 1) := by decide +kernel
theorem dk_X2_howManyCount_41 : decode cX2_howManyCount 41 = .ok (.ireturn, 1) := by decide +kernel
theorem dk_X2_howManyCount_42 : decode cX2_howManyCount 42 = .ok (.aload_n 0, 1) := by decide +kernel
theorem dk_X2_howManyCount_43 : decode cX2_howManyCount 43 = .ok (.getfield 15, 3) := by decide +kernel
theorem dk_X2_howManyCount_46 : decode cX2_howManyCount 46 = .ok (.bipush 9, 2) := by decide +kernel
theorem dk_X2_howManyCount_48 : decode cX2_howManyCount 48 = .ok (.if_icmp .lt 18, 3) := by decide +kernel
theorem dk_X2_howManyCount_51 : decode cX2_howManyCount 51 = .ok (.aload_n 0, 1) := by decide +kernel
theorem dk_X2_howManyCount_52 : decode cX2_howManyCount 52 = .ok (.getfield 15, 3) := by decide +kernel
theorem dk_X2_howManyCount_55 : decode cX2_howManyCount 55 = .ok (.bipush 12, 2) := by decide +kernel
theorem dk_X2_howManyCount_57 : decode cX2_howManyCount 57 = .ok (.if_icmp .lt 7, 3) := by decide +kernel
theorem dk_X2_howManyCount_60 : decode cX2_howManyCount 60 = .ok (.iconst 4, 1) := by decide +kernel
theorem dk_X2_howManyCount_61 : decode cX2_howManyCount 61 = .ok (.goto 4, 3) := by decide +kernel
theorem dk_X2_howManyCount_64 : decode cX2_howManyCount 64 = .ok (.iconst 3, 1) := by decide +kernel
theorem dk_X2_howManyCount_65 : decode cX2_howManyCount 65 = .ok (.ireturn, 1) := by decide +kernel
theorem dk_X2_howManyCount_66 : decode cX2_howManyCount 66 = .ok (.aload_n 0, 1) := by decide +kernel
theorem dk_X2_howManyCount_67 : decode cX2_howManyCount 67 = .ok (.getfield 15, 3) := by decide +kernel
theorem dk_X2_howManyCount_70 : decode cX2_howManyCount 70 = .ok (.bipush 6, 2) := by decide +kernel
theorem dk_X2_howManyCount_72 : decode cX2_howManyCount 72 = .ok (.if_icmp .lt 7, 3) := by decide +kernel
theorem dk_X2_howManyCount_75 : decode cX2_howManyCount 75 = .ok (.iconst 2, 1) := by decide +kernel
theorem dk_X2_howManyCount_76 : decode cX2_howManyCount 76 = .ok (.goto 4, 3) := by decide +kernel
theorem dk_X2_howManyCount_79 : decode cX2_howManyCount 79 = .ok (.iconst 1, 1) := by decide +kernel
theorem dk_X2_howManyCount_80 : decode cX2_howManyCount 80 = .ok (.ireturn, 1) := by decide +kernel
theorem dk_X2_isLawful_0 : decode cX2_isLawful 0 = .ok (.aload_n 0, 1) := by decide +kernel
theorem dk_X2_isLawful_1 : decode cX2_isLawful 1 = .ok (.getfield 15, 3) := by decide +kernel
theorem dk_X2_isLawful_4 : decode cX2_isLawful 4 = .ok (.ifCond .eq 29, 3) := by decide +kernel
theorem dk_X2_isLawful_7 : decode cX2_isLawful 7 = .ok (.aload_n 0, 1) := by decide +kernel
theorem dk_X2_isLawful_8 : decode cX2_isLawful 8 = .ok (.getfield 27, 3) := by decide +kernel
theorem dk_X2_isLawful_11 : decode cX2_isLawful 11 = .ok (.aload_n 0, 1) := by decide +kernel
theorem dk_X2_isLawful_12 : decode cX2_isLawful 12 = .ok (.aload_n 0, 1) := by decide +kernel
theorem dk_X2_isLawful_13 : decode cX2_isLawful 13 = .ok (.invokevirtual 23, 3) := by decide +kernel
theorem dk_X2_isLawful_16 : decode cX2_isLawful 16 = .ok (.invokevirtual 40, 3) := by decide +kernel
theorem dk_X2_isLawful_19 : decode cX2_isLawful 19 = .ok (.if_icmp .gt 18, 3) := by decide +kernel
theorem dk_X2_isLawful_22 : decode cX2_isLawful 22 = .ok (.aload_n 0, 1) := by decide +kernel
theorem dk_X2_isLawful_23 : decode cX2_isLawful 23 = .ok (.getfield 27, 3) := by decide +kernel
theorem dk_X2_isLawful_26 : decode cX2_isLawful 26 = .ok (.aload_n 0, 1) := by decide +kernel
theorem dk_X2_isLawful_27 : decode cX2_isLawful 27 = .ok (.getfield 30, 3) := by decide +kernel
theorem dk_X2_isLawful_30 : decode cX2_isLawful 30 = .ok (.if_icmp .lt 7, 3) := by decide +kernel
theorem dk_X2_isLawful_33 : decode cX2_isLawful 33 = .ok (.iconst 1, 1) := by decide +kernel
theorem dk_X2_isLawful_34 : decode cX2_isLawful 34 = .ok (.goto 4, 3) := by decide +kernel
theorem dk_X2_isLawful_38 : decode cX2_isLawful 38 = .ok (.ireturn, 1) := by decide +kernel
theorem dk_X2_keep_0 : decode cX2_keep 0 = .ok (.aload_n 0, 1) := by decide +kernel
theorem dk_X2_keep_1 : decode cX2_keep 1 = .ok (.getfield 15, 3) := by decide +kernel
theorem dk_X2_keep_4 : decode cX2_keep 4 = .ok (.bipush 20, 2) := by decide +kernel
theorem dk_X2_keep_6 : decode cX2_keep 6 = .ok (.if_icmp .lt 37, 3) := by decide +kernel
theorem dk_X2_keep_9 : decode cX2_keep 9 = .ok (.iconst 1, 1) := by decide +kernel
theorem dk_X2_keep_10 : decode cX2_keep 10 = .ok (.istore_n 2, 1) := by decide +kernel
theorem dk_X2_keep_11 : decode cX2_keep 11 = .ok (.iload_n 2, 1) := by decide +kernel
theorem dk_X2_keep_12 : decode cX2_keep 12 = .ok (.bipush 20, 2) := by decide +kernel
theorem dk_X2_keep_14 : decode cX2_keep 14 = .ok (.if_icmp .ge 23, 3) := by decide +kernel
theorem dk_X2_keep_17 : decode cX2_keep 17 = .ok (.aload_n 0, 1) := by decide +kernel
theorem dk_X2_keep_18 : decode cX2_keep 18 = .ok (.getfield 9, 3) := by decide +kernel
theorem dk_X2_keep_21 : decode cX2_keep 21 = .ok (.iload_n 2, 1) := by decide +kernel
theorem dk_X2_keep_22 : decode cX2_keep 22 = .ok (.iconst 1, 1) := by decide +kernel
theorem dk_X2_keep_23 : decode cX2_keep 23 = .ok (.isub, 1) := by decide +kernel
theorem dk_X2_keep_24 : decode cX2_keep 24 = .ok (.aload_n 0, 1) := by decide +kernel
theorem dk_X2_keep_25 : decode cX2_keep 25 = .ok (.getfield 9, 3) := by decide +kernel
theorem dk_X2_keep_28 : decode cX2_keep 28 = .ok (.iload_n 2, 1) := by decide +kernel
theorem dk_X2_keep_29 : decode cX2_keep 29 = .ok (.iaload, 1) := by decide +kernel
theorem dk_X2_keep_30 : decode cX2_keep 30 = .ok (.iastore, 1) := by decide +kernel
theorem dk_X2_keep_31 : decode cX2_keep 31 = .ok (.iinc 2 1, 3) := by decide +kernel
theorem dk_X2_keep_34 : decode cX2_keep 34 = .ok (.goto (-23), 3) := by decide +kernel
theorem dk_X2_keep_37 : decode cX2_keep 37 = .ok (.aload_n 0, 1) := by decide +kernel
theorem dk_X2_keep_38 : decode cX2_keep 38 = .ok (.bipush 19, 2) := by decide +kernel
theorem dk_X2_keep_40 : decode cX2_keep 40 = .ok (.putfield 15, 3) := by decide +kernel
theorem dk_X2_keep_43 : decode cX2_keep 43 = .ok (.aload_n 0, 1) := by decide +kernel
theorem dk_X2_keep_44 : decode cX2_keep 44 = .ok (.getfield 15, 3) := by decide +kernel
theorem dk_X2_keep_47 : decode cX2_keep 47 = .ok (.ifCond .lt 32, 3) := by decide +kernel
theorem dk_X2_keep_50 : decode cX2_keep 50 = .ok (.aload_n 0, 1) := by decide +kernel
theorem dk_X2_keep_51 : decode cX2_keep 51 = .ok (.getfield 15, 3) := by decide +kernel
theorem dk_X2_keep_54 : decode cX2_keep 54 = .ok (.bipush 20, 2) := by decide +kernel
theorem dk_X2_keep_56 : decode cX2_keep 56 = .ok (.if_icmp .ge 23, 3) := by decide +kernel
theorem dk_X2_keep_59 : decode cX2_keep 59 = .ok (.aload_n 0, 1) := by decide +kernel
theorem dk_X2_keep_60 : decode cX2_keep 60 = .ok (.getfield 9, 3) := by decide +kernel
theorem dk_X2_keep_63 : decode cX2_keep 63 = .ok (.aload_n 0, 1) := by decide +kernel
theorem dk_X2_keep_64 : decode cX2_keep 64 = .ok (.getfield 15, 3) := by decide +kernel
theorem dk_X2_keep_67 : decode cX2_keep 67 = .ok (.iload_n 1, 1) := by decide +kernel
theorem dk_X2_keep_68 : decode cX2_keep 68 = .ok (.iastore, 1) := by decide +kernel
theorem dk_X2_keep_69 : decode cX2_keep 69 = .ok (.aload_n 0, 1) := by decide +kernel
theorem dk_X2_keep_70 : decode cX2_keep 70 = .ok (.dup, 1) := by decide +kernel
theorem dk_X2_keep_71 : decode cX2_keep 71 = .ok (.getfield 15, 3) := by decide +kernel
theorem dk_X2_keep_74 : decode cX2_keep 74 = .ok (.iconst 1, 1) := by decide +kernel
theorem dk_X2_keep_75 : decode cX2_keep 75 = .ok (.iadd, 1) := by decide +kernel
theorem dk_X2_keep_76 : decode cX2_keep 76 = .ok (.putfield 15, 3) := by decide +kernel
theorem dk_X2_keep_79 : decode cX2_keep 79 = .ok (.return_, 1) := by decide +kernel
theorem dk_X2_mean_0 : decode cX2_mean 0 = .ok (.aload_n 0, 1) := by decide +kernel
theorem dk_X2_mean_1 : decode cX2_mean 1 = .ok (.invokevirtual 49, 3) := by decide +kernel
theorem dk_X2_mean_4 : decode cX2_mean 4 = .ok (.istore_n 1, 1) := by decide +kernel
theorem dk_X2_mean_5 : decode cX2_mean 5 = .ok (.iload_n 1, 1) := by decide +kernel
theorem dk_X2_mean_6 : decode cX2_mean 6 = .ok (.iconst 1, 1) := by decide +kernel
theorem dk_X2_mean_7 : decode cX2_mean 7 = .ok (.if_icmp .ge 5, 3) := by decide +kernel
theorem dk_X2_mean_12 : decode cX2_mean 12 = .ok (.iconst 0, 1) := by decide +kernel
theorem dk_X2_mean_13 : decode cX2_mean 13 = .ok (.istore_n 2, 1) := by decide +kernel
theorem dk_X2_mean_14 : decode cX2_mean 14 = .ok (.iconst 0, 1) := by decide +kernel
theorem dk_X2_mean_15 : decode cX2_mean 15 = .ok (.istore_n 3, 1) := by decide +kernel
theorem dk_X2_mean_16 : decode cX2_mean 16 = .ok (.iload_n 3, 1) := by decide +kernel
theorem dk_X2_mean_17 : decode cX2_mean 17 = .ok (.aload_n 0, 1) := by decide +kernel
theorem dk_X2_mean_18 : decode cX2_mean 18 = .ok (.getfield 15, 3) := by decide +kernel
theorem dk_X2_mean_21 : decode cX2_mean 21 = .ok (.if_icmp .ge 26, 3) := by decide +kernel
theorem dk_X2_mean_24 : decode cX2_mean 24 = .ok (.aload_n 0, 1) := by decide +kernel
theorem dk_X2_mean_25 : decode cX2_mean 25 = .ok (.iload_n 3, 1) := by decide +kernel
theorem dk_X2_mean_26 : decode cX2_mean 26 = .ok (.invokevirtual 52, 3) := by decide +kernel
theorem dk_X2_mean_29 : decode cX2_mean 29 = .ok (.iload_n 1, 1) := by decide +kernel
theorem dk_X2_mean_30 : decode cX2_mean 30 = .ok (.if_icmp .ge 11, 3) := by decide +kernel
theorem dk_X2_mean_33 : decode cX2_mean 33 = .ok (.iload_n 2, 1) := by decide +kernel
theorem dk_X2_mean_34 : decode cX2_mean 34 = .ok (.aload_n 0, 1) := by decide +kernel
theorem dk_X2_mean_35 : decode cX2_mean 35 = .ok (.iload_n 3, 1) := by decide +kernel
theorem dk_X2_mean_36 : decode cX2_mean 36 = .ok (.invokevirtual 55, 3) := by decide +kernel
theorem dk_X2_mean_39 : decode cX2_mean 39 = .ok (.iadd, 1) := by decide +kernel
theorem dk_X2_mean_40 : decode cX2_mean 40 = .ok (.istore_n 2, 1) := by decide +kernel
theorem dk_X2_mean_41 : decode cX2_mean 41 = .ok (.iinc 3 1, 3) := by decide +kernel
theorem dk_X2_mean_44 : decode cX2_mean 44 = .ok (.goto (-28), 3) := by decide +kernel
theorem dk_X2_mean_47 : decode cX2_mean 47 = .ok (.iload_n 2, 1) := by decide +kernel
theorem dk_X2_mean_48 : decode cX2_mean 48 = .ok (.iload_n 1, 1) := by decide +kernel
theorem dk_X2_mean_49 : decode cX2_mean 49 = .ok (.invokestatic 58, 3) := by decide +kernel
theorem dk_X2_mean_52 : decode cX2_mean 52 = .ok (.ireturn, 1) := by decide +kernel
theorem dk_X2_offFor_0 : decode cX2_offFor 0 = .ok (.iload_n 1, 1) := by decide +kernel
theorem dk_X2_offFor_1 : decode cX2_offFor 1 = .ok (.aload_n 0, 1) := by decide +kernel
theorem dk_X2_offFor_2 : decode cX2_offFor 2 = .ok (.getfield 27, 3) := by decide +kernel
theorem dk_X2_offFor_5 : decode cX2_offFor 5 = .ok (.bipush 100, 2) := by decide +kernel
theorem dk_X2_offFor_7 : decode cX2_offFor 7 = .ok (.isub, 1) := by decide +kernel
theorem dk_X2_offFor_8 : decode cX2_offFor 8 = .ok (.if_icmp .gt 6, 3) := by decide +kernel
theorem dk_X2_offFor_11 : decode cX2_offFor 11 = .ok (.bipush 20, 2) := by decide +kernel
theorem dk_X2_offFor_13 : decode cX2_offFor 13 = .ok (.ireturn, 1) := by decide +kernel
theorem dk_X2_offFor_14 : decode cX2_offFor 14 = .ok (.iload_n 1, 1) := by decide +kernel
theorem dk_X2_offFor_15 : decode cX2_offFor 15 = .ok (.aload_n 0, 1) := by decide +kernel
theorem dk_X2_offFor_16 : decode cX2_offFor 16 = .ok (.getfield 27, 3) := by decide +kernel
theorem dk_X2_offFor_19 : decode cX2_offFor 19 = .ok (.bipush 70, 2) := by decide +kernel
theorem dk_X2_offFor_21 : decode cX2_offFor 21 = .ok (.isub, 1) := by decide +kernel
theorem dk_X2_offFor_22 : decode cX2_offFor 22 = .ok (.if_icmp .gt 8, 3) := by decide +kernel
theorem dk_X2_offFor_25 : decode cX2_offFor 25 = .ok (.bipush 10, 2) := by decide +kernel
theorem dk_X2_offFor_27 : decode cX2_offFor 27 = .ok (.goto 4, 3) := by decide +kernel
theorem dk_X2_offFor_30 : decode cX2_offFor 30 = .ok (.iconst 0, 1) := by decide +kernel
theorem dk_X2_offFor_31 : decode cX2_offFor 31 = .ok (.ireturn, 1) := by decide +kernel
theorem dk_X2_takeOff_0 : decode cX2_takeOff 0 = .ok (.iconst 0, 1) := by decide +kernel
theorem dk_X2_takeOff_1 : decode cX2_takeOff 1 = .ok (.istore_n 2, 1) := by decide +kernel
theorem dk_X2_takeOff_2 : decode cX2_takeOff 2 = .ok (.iload_n 2, 1) := by decide +kernel
theorem dk_X2_takeOff_3 : decode cX2_takeOff 3 = .ok (.aload_n 0, 1) := by decide +kernel
theorem dk_X2_takeOff_4 : decode cX2_takeOff 4 = .ok (.getfield 15, 3) := by decide +kernel
theorem dk_X2_takeOff_7 : decode cX2_takeOff 7 = .ok (.if_icmp .ge 25, 3) := by decide +kernel
theorem dk_X2_takeOff_10 : decode cX2_takeOff 10 = .ok (.iload_n 2, 1) := by decide +kernel
theorem dk_X2_takeOff_11 : decode cX2_takeOff 11 = .ok (.bipush 20, 2) := by decide +kernel
theorem dk_X2_takeOff_13 : decode cX2_takeOff 13 = .ok (.if_icmp .ge 19, 3) := by decide +kernel
theorem dk_X2_takeOff_16 : decode cX2_takeOff 16 = .ok (.aload_n 0, 1) := by decide +kernel
theorem dk_X2_takeOff_17 : decode cX2_takeOff 17 = .ok (.getfield 9, 3) := by decide +kernel
theorem dk_X2_takeOff_20 : decode cX2_takeOff 20 = .ok (.iload_n 2, 1) := by decide +kernel
theorem dk_X2_takeOff_21 : decode cX2_takeOff 21 = .ok (.dup2, 1) := by decide +kernel
theorem dk_X2_takeOff_22 : decode cX2_takeOff 22 = .ok (.iaload, 1) := by decide +kernel
theorem dk_X2_takeOff_23 : decode cX2_takeOff 23 = .ok (.iload_n 1, 1) := by decide +kernel
theorem dk_X2_takeOff_24 : decode cX2_takeOff 24 = .ok (.isub, 1) := by decide +kernel
theorem dk_X2_takeOff_25 : decode cX2_takeOff 25 = .ok (.iastore, 1) := by decide +kernel
theorem dk_X2_takeOff_26 : decode cX2_takeOff 26 = .ok (.iinc 2 1, 3) := by decide +kernel
theorem dk_X2_takeOff_29 : decode cX2_takeOff 29 = .ok (.goto (-27), 3) := by decide +kernel
theorem dk_X2_takeOff_32 : decode cX2_takeOff 32 = .ok (.return_, 1) := by decide +kernel
set_option maxHeartbeats 4000000 in
theorem kx_J9_min_7cf53 {l : Launch} (hl9 : l.stackTraces = false) (D : va_G) {tys : List (ClassId × FieldType)} {w : va_W} {sz : Nat} (hD0 : va_D (va_A w sz) w) {a1 a2 : Int32} : kx_C l yJ9_min_7cf53 cJ9_min_7cf53 2 (some .int) 0 0 0 0 [.int a1, .int a2] D tys w sz (fun res w1 => w1 = w ∧ res = some (.int (ks_mi a1 a2))) (fun _ => False) := by
  refine en_ofW (cc := cJ9_min_7cf53) (maxL := 2) (ret := (some .int)) (by decide +kernel) rfl ?_
  intro p e s m args below meth c s₁ B9 hml hne hv
  obtain ⟨rfl, hsz, hP, hK, hT⟩ := hv
  subst hsz
  have hx := B9.exec
  have hb := B9.bytes
  have hr := B9.returns
  have hlocks := B9.notSynchronized
  have hts0 := atoms_spec (ws := Cond.code yJ9_min_7cf53 cJ9_min_7cf53 2 (some .int) :: en_cw) B9.pre
  have hts : ∀ z ∈ en_cw, z.before _ s = true := fun z hz => hts0 z (List.mem_cons_of_mem _ hz)
  have hown : s.vm.findClass RJ9 = some m.cls := findClass_of_methodNamed B9.named
  have G : kx_G p s m ([.int a1, .int a2] : List Value).toArray c cJ9_min_7cf53 RJ9 D tys (va_A w s.heap.size) := ⟨hx, hb, hts, hown, hK, hT, fun q h => Or.inr h⟩
  have L : kx_H D (va_A w s.heap.size) s w s.heap [] := ⟨hP, ⟨hD0.1, fun j z hz => Or.inl ⟨j, z.2, hz⟩⟩, va_S.rf⟩
  have hl := lv_entry ([.int a1, .int a2] : List Value) (n := 2) (Nat.le_of_ble_eq_true rfl)
  rw [lg_entry_eq]
  generalize (lg_sl ([.int a1, .int a2] : List Value) ++ List.replicate (2 - (lg_sl ([.int a1, .int a2] : List Value)).length) Slot.unset).toArray = ls at hl ⊢
  have hl : lv_has ls 2 [(0, .int a1), (1, .int a2)] := hl
  refine lv_iload_n hx hb dk_J9_min_7cf53_0 rfl (lv_at hl 0 rfl) ?_
  refine lv_iload_n hx hb dk_J9_min_7cf53_1 rfl (lv_at hl 1 rfl) ?_
  refine lv_icmp_gt (tgt := 9) hx hb dk_J9_min_7cf53_2 (by decide) (fun c1 => ?_) (fun c1 => ?_)
  · skip
    have tc1 : (a2 : Int32).toInt < (a1 : Int32).toInt := Int32.lt_iff_toInt_lt.mp c1
    refine lv_iload_n hx hb dk_J9_min_7cf53_9 rfl (lv_at hl 1 rfl) ?_
    exact vx_ret (W.widen (Nat.le_of_ble_eq_true rfl) (Nat.le_of_ble_eq_true rfl) (W.iret (v := a2) hx hb hr (fun T9 hT9 _ => ⟨⟨a2, w, rfl, ⟨rfl, by rw [ks_mi_1 c1]⟩, by rw [hT9]; exact L.1, L.2.1⟩, L.2.2.F hT9⟩) L.2.2.2.2 dk_J9_min_7cf53_10 hlocks))
  · skip
    have tc1 : ¬ (a2 : Int32).toInt < (a1 : Int32).toInt := fun h => c1 (Int32.lt_iff_toInt_lt.mpr h)
    refine lv_iload_n hx hb dk_J9_min_7cf53_5 rfl (lv_at hl 0 rfl) ?_
    refine lv_goto (tgt := 10) hx hb dk_J9_min_7cf53_6 (by decide) ?_
    exact vx_ret (W.widen (Nat.le_of_ble_eq_true rfl) (Nat.le_of_ble_eq_true rfl) (W.iret (v := a1) hx hb hr (fun T9 hT9 _ => ⟨⟨a1, w, rfl, ⟨rfl, by rw [ks_mi_0 c1]⟩, by rw [hT9]; exact L.1, L.2.1⟩, L.2.2.F hT9⟩) L.2.2.2.2 dk_J9_min_7cf53_10 hlocks))
set_option maxHeartbeats 4000000 in
theorem kx_J6_compare_7cf53 {l : Launch} (hl9 : l.stackTraces = false) (D : va_G) {tys : List (ClassId × FieldType)} {w : va_W} {sz : Nat} (hD0 : va_D (va_A w sz) w) {a1 a2 : Int32} : kx_C l yJ6_compare_7cf53 cJ6_compare_7cf53 2 (some .int) 0 0 0 0 [.int a1, .int a2] D tys w sz (fun res w1 => w1 = w ∧ ((res = some (.int (-1)) ∧ a1.toInt < a2.toInt) ∨ (res = some (.int 0) ∧ a1 = a2) ∨ (res = some (.int 1) ∧ a2.toInt < a1.toInt))) (fun _ => False) := by
  refine en_ofW (cc := cJ6_compare_7cf53) (maxL := 2) (ret := (some .int)) (by decide +kernel) rfl ?_
  intro p e s m args below meth c s₁ B9 hml hne hv
  obtain ⟨rfl, hsz, hP, hK, hT⟩ := hv
  subst hsz
  have hx := B9.exec
  have hb := B9.bytes
  have hr := B9.returns
  have hlocks := B9.notSynchronized
  have hts0 := atoms_spec (ws := Cond.code yJ6_compare_7cf53 cJ6_compare_7cf53 2 (some .int) :: en_cw) B9.pre
  have hts : ∀ z ∈ en_cw, z.before _ s = true := fun z hz => hts0 z (List.mem_cons_of_mem _ hz)
  have hown : s.vm.findClass RJ6 = some m.cls := findClass_of_methodNamed B9.named
  have G : kx_G p s m ([.int a1, .int a2] : List Value).toArray c cJ6_compare_7cf53 RJ6 D tys (va_A w s.heap.size) := ⟨hx, hb, hts, hown, hK, hT, fun q h => Or.inr h⟩
  have L : kx_H D (va_A w s.heap.size) s w s.heap [] := ⟨hP, ⟨hD0.1, fun j z hz => Or.inl ⟨j, z.2, hz⟩⟩, va_S.rf⟩
  have hl := lv_entry ([.int a1, .int a2] : List Value) (n := 2) (Nat.le_of_ble_eq_true rfl)
  rw [lg_entry_eq]
  generalize (lg_sl ([.int a1, .int a2] : List Value) ++ List.replicate (2 - (lg_sl ([.int a1, .int a2] : List Value)).length) Slot.unset).toArray = ls at hl ⊢
  have hl : lv_has ls 2 [(0, .int a1), (1, .int a2)] := hl
  refine lv_iload_n hx hb dk_J6_compare_7cf53_0 rfl (lv_at hl 0 rfl) ?_
  refine lv_iload_n hx hb dk_J6_compare_7cf53_1 rfl (lv_at hl 1 rfl) ?_
  refine lv_icmp_ge (tgt := 9) hx hb dk_J6_compare_7cf53_2 (by decide) (fun c1 => ?_) (fun c1 => ?_)
  · skip
    have tc1 : (a2 : Int32).toInt ≤ (a1 : Int32).toInt := Int32.le_iff_toInt_le.mp c1
    refine lv_iload_n hx hb dk_J6_compare_7cf53_9 rfl (lv_at hl 0 rfl) ?_
    refine lv_iload_n hx hb dk_J6_compare_7cf53_10 rfl (lv_at hl 1 rfl) ?_
    refine lv_icmp_ne (tgt := 18) hx hb dk_J6_compare_7cf53_11 (by decide) (fun c2 => ?_) (fun c2 => ?_)
    · skip
      have tc2 : ¬ (a1 : Int32).toInt = (a2 : Int32).toInt := fun h => c2 (Int32.toInt_inj.mp h)
      refine lv_iconst (v := 1) hx hb dk_J6_compare_7cf53_18 (by decide) ?_
      exact vx_ret (W.widen (Nat.le_of_ble_eq_true rfl) (Nat.le_of_ble_eq_true rfl) (W.iret (v := 1) hx hb hr (fun T9 hT9 _ => ⟨⟨1, w, rfl, ⟨rfl, Or.inr (Or.inr ⟨rfl, by omega⟩)⟩, by rw [hT9]; exact L.1, L.2.1⟩, L.2.2.F hT9⟩) L.2.2.2.2 dk_J6_compare_7cf53_19 hlocks))
    · skip
      have tc2 : (a1 : Int32).toInt = (a2 : Int32).toInt := by rw [c2]
      refine lv_iconst (v := 0) hx hb dk_J6_compare_7cf53_14 (by decide) ?_
      refine lv_goto (tgt := 19) hx hb dk_J6_compare_7cf53_15 (by decide) ?_
      exact vx_ret (W.widen (Nat.le_of_ble_eq_true rfl) (Nat.le_of_ble_eq_true rfl) (W.iret (v := 0) hx hb hr (fun T9 hT9 _ => ⟨⟨0, w, rfl, ⟨rfl, Or.inr (Or.inl ⟨rfl, c2⟩)⟩, by rw [hT9]; exact L.1, L.2.1⟩, L.2.2.F hT9⟩) L.2.2.2.2 dk_J6_compare_7cf53_19 hlocks))
  · skip
    have tc1 : ¬ (a2 : Int32).toInt ≤ (a1 : Int32).toInt := fun h => c1 (Int32.le_iff_toInt_le.mpr h)
    refine lv_iconst (v := (-1)) hx hb dk_J6_compare_7cf53_5 (by decide) ?_
    refine lv_goto (tgt := 19) hx hb dk_J6_compare_7cf53_6 (by decide) ?_
    exact vx_ret (W.widen (Nat.le_of_ble_eq_true rfl) (Nat.le_of_ble_eq_true rfl) (W.iret (v := (-1)) hx hb hr (fun T9 hT9 _ => ⟨⟨(-1), w, rfl, ⟨rfl, Or.inl ⟨rfl, by omega⟩⟩, by rw [hT9]; exact L.1, L.2.1⟩, L.2.2.F hT9⟩) L.2.2.2.2 dk_J6_compare_7cf53_19 hlocks))
set_option maxHeartbeats 4000000 in
theorem kx_J9_floorDiv_7cf53 {l : Launch} (hl9 : l.stackTraces = false) (D : va_G) {tys : List (ClassId × FieldType)} {w : va_W} {sz : Nat} (hD0 : va_D (va_A w sz) w) {a1 a2 : Int32} (hne0 : ¬ a2 = 0) : kx_C l yJ9_floorDiv_7cf53 cJ9_floorDiv_7cf53 3 (some .int) 0 0 0 0 [.int a1, .int a2] D tys w sz (fun res w1 => w1 = w ∧ res = some (.int (ks_fd a1 a2))) (fun _ => False) := by
  refine en_ofW (cc := cJ9_floorDiv_7cf53) (maxL := 3) (ret := (some .int)) (by decide +kernel) rfl ?_
  intro p e s m args below meth c s₁ B9 hml hne hv
  obtain ⟨rfl, hsz, hP, hK, hT⟩ := hv
  subst hsz
  have hx := B9.exec
  have hb := B9.bytes
  have hr := B9.returns
  have hlocks := B9.notSynchronized
  have hts0 := atoms_spec (ws := Cond.code yJ9_floorDiv_7cf53 cJ9_floorDiv_7cf53 3 (some .int) :: en_cw) B9.pre
  have hts : ∀ z ∈ en_cw, z.before _ s = true := fun z hz => hts0 z (List.mem_cons_of_mem _ hz)
  have hown : s.vm.findClass RJ9 = some m.cls := findClass_of_methodNamed B9.named
  have G : kx_G p s m ([.int a1, .int a2] : List Value).toArray c cJ9_floorDiv_7cf53 RJ9 D tys (va_A w s.heap.size) := ⟨hx, hb, hts, hown, hK, hT, fun q h => Or.inr h⟩
  have L : kx_H D (va_A w s.heap.size) s w s.heap [] := ⟨hP, ⟨hD0.1, fun j z hz => Or.inl ⟨j, z.2, hz⟩⟩, va_S.rf⟩
  have hl := lv_entry ([.int a1, .int a2] : List Value) (n := 3) (Nat.le_of_ble_eq_true rfl)
  rw [lg_entry_eq]
  generalize (lg_sl ([.int a1, .int a2] : List Value) ++ List.replicate (3 - (lg_sl ([.int a1, .int a2] : List Value)).length) Slot.unset).toArray = ls at hl ⊢
  have hl : lv_has ls 3 [(0, .int a1), (1, .int a2)] := hl
  refine lv_iload_n hx hb dk_J9_floorDiv_7cf53_0 rfl (lv_at hl 0 rfl) ?_
  refine lv_iload_n hx hb dk_J9_floorDiv_7cf53_1 rfl (lv_at hl 1 rfl) ?_
  refine lv_idiv hx hb dk_J9_floorDiv_7cf53_2 hne0 ?_
  refine lv_istore_n (lv' := [(2, .int (a1 / a2)), (0, .int a1), (1, .int a2)]) hx hb dk_J9_floorDiv_7cf53_3 rfl hl (by decide) rfl (fun ls hl => ?_)
  refine lv_iload_n hx hb dk_J9_floorDiv_7cf53_4 rfl (lv_at hl 1 rfl) ?_
  refine lv_iload_n hx hb dk_J9_floorDiv_7cf53_5 rfl (lv_at hl 2 rfl) ?_
  refine lv_ixor hx hb dk_J9_floorDiv_7cf53_6 ?_
  have k2 : (0 : Int32).toInt = 0 := by decide
  refine lv_if_ge (tgt := 21) hx hb dk_J9_floorDiv_7cf53_7 (by decide) (fun c1 => ?_) (fun c1 => ?_)
  · skip
    have tc1 : (0 : Int32).toInt ≤ ((a1 ^^^ a2) : Int32).toInt := Int32.le_iff_toInt_le.mp c1
    refine lv_iload_n hx hb dk_J9_floorDiv_7cf53_21 rfl (lv_at hl 0 rfl) ?_
    exact vx_ret (W.widen (Nat.le_of_ble_eq_true rfl) (Nat.le_of_ble_eq_true rfl) (W.iret (v := (a1 / a2)) hx hb hr (fun T9 hT9 _ => ⟨⟨(a1 / a2), w, rfl, ⟨rfl, by rw [ks_fd_1 c1]⟩, by rw [hT9]; exact L.1, L.2.1⟩, L.2.2.F hT9⟩) L.2.2.2.2 dk_J9_floorDiv_7cf53_22 hlocks))
  · skip
    have tc1 : ¬ (0 : Int32).toInt ≤ ((a1 ^^^ a2) : Int32).toInt := fun h => c1 (Int32.le_iff_toInt_le.mpr h)
    refine lv_iload_n hx hb dk_J9_floorDiv_7cf53_10 rfl (lv_at hl 0 rfl) ?_
    refine lv_iload_n hx hb dk_J9_floorDiv_7cf53_11 rfl (lv_at hl 2 rfl) ?_
    refine lv_imul hx hb dk_J9_floorDiv_7cf53_12 ?_
    refine lv_iload_n hx hb dk_J9_floorDiv_7cf53_13 rfl (lv_at hl 1 rfl) ?_
    refine lv_icmp_eq (tgt := 21) hx hb dk_J9_floorDiv_7cf53_14 (by decide) (fun c3 => ?_) (fun c3 => ?_)
    · skip
      have tc3 : (((a1 / a2) * a2) : Int32).toInt = (a1 : Int32).toInt := by rw [c3]
      refine lv_iload_n hx hb dk_J9_floorDiv_7cf53_21 rfl (lv_at hl 0 rfl) ?_
      exact vx_ret (W.widen (Nat.le_of_ble_eq_true rfl) (Nat.le_of_ble_eq_true rfl) (W.iret (v := (a1 / a2)) hx hb hr (fun T9 hT9 _ => ⟨⟨(a1 / a2), w, rfl, ⟨rfl, by rw [ks_fd_2 c1 c3]⟩, by rw [hT9]; exact L.1, L.2.1⟩, L.2.2.F hT9⟩) L.2.2.2.2 dk_J9_floorDiv_7cf53_22 hlocks))
    · skip
      have tc3 : ¬ (((a1 / a2) * a2) : Int32).toInt = (a1 : Int32).toInt := fun h => c3 (Int32.toInt_inj.mp h)
      refine lv_iload_n hx hb dk_J9_floorDiv_7cf53_17 rfl (lv_at hl 0 rfl) ?_
      refine lv_iconst (v := 1) hx hb dk_J9_floorDiv_7cf53_18 (by decide) ?_
      refine lv_isub hx hb dk_J9_floorDiv_7cf53_19 ?_
      exact vx_ret (W.widen (Nat.le_of_ble_eq_true rfl) (Nat.le_of_ble_eq_true rfl) (W.iret (v := ((a1 / a2) - 1)) hx hb hr (fun T9 hT9 _ => ⟨⟨((a1 / a2) - 1), w, rfl, ⟨rfl, by rw [ks_fd_3 c1 c3]⟩, by rw [hT9]; exact L.1, L.2.1⟩, L.2.2.F hT9⟩) L.2.2.2.2 dk_J9_floorDiv_7cf53_20 hlocks))
set_option maxHeartbeats 4000000 in
theorem kx_X2_differenceAt {l : Launch} (hl9 : l.stackTraces = false) (D : va_G) {tys : List (ClassId × FieldType)} {w : va_W} {sz : Nat} (hD0 : va_D (va_A w sz) w) {b b2 q q2 n : Nat} {ix lo : Int32} {cI : ClassId} {g : Nat → Int32} {k : Nat} (hti : tys[0]? = some (cI, .int)) (hf : w[q]? = some (b, .inr (8, [.ref b2, .int (nI n), .int ix, .int lo]))) (hg : w[q2]? = some (b2, .inl (cI, 20, .inl g))) (hn : n ≤ 20) (hk : k < 20) : kx_C l yX2_differenceAt cX2_differenceAt 2 (some .int) 0 0 0 0 [.ref b, .int (nI k)] D tys w sz (fun res w1 => w1 = w ∧ res = some (.int (g k))) (fun _ => False) := by
  refine vx_ofW (cc := cX2_differenceAt) (maxL := 2) (ret := (some .int)) (by decide +kernel) rfl ?_
  intro p e s m args below meth c s₁ B9 hml hne hv
  obtain ⟨rfl, hsz, hP, hK, hT⟩ := hv
  subst hsz
  have hx := B9.exec
  have hb := B9.bytes
  have hr := B9.returns
  have hlocks := B9.notSynchronized
  have hts0 := atoms_spec (ws := Cond.code yX2_differenceAt cX2_differenceAt 2 (some .int) :: en_cw) B9.pre
  have hts : ∀ z ∈ en_cw, z.before _ s = true := fun z hz => hts0 z (List.mem_cons_of_mem _ hz)
  have hown : s.vm.findClass RX2 = some m.cls := findClass_of_methodNamed B9.named
  have G : kx_G p s m ([.ref b, .int (nI k)] : List Value).toArray c cX2_differenceAt RX2 D tys (va_A w s.heap.size) := ⟨hx, hb, hts, hown, hK, hT, fun q h => Or.inr h⟩
  have L : kx_H D (va_A w s.heap.size) s w s.heap [] := ⟨hP, ⟨hD0.1, fun j z hz => Or.inl ⟨j, z.2, hz⟩⟩, va_S.rf⟩
  have hl := lv_entry ([.ref b, .int (nI k)] : List Value) (n := 2) (Nat.le_of_ble_eq_true rfl)
  rw [lg_entry_eq]
  generalize (lg_sl ([.ref b, .int (nI k)] : List Value) ++ List.replicate (2 - (lg_sl ([.ref b, .int (nI k)] : List Value)).length) Slot.unset).toArray = ls at hl ⊢
  have hl : lv_has ls 2 [(0, .ref b), (1, .int (nI k))] := hl
  refine lv_iload_n hx hb dk_X2_differenceAt_0 rfl (lv_at hl 1 rfl) ?_
  have k2 : (nI k).toInt = (((k) : Nat) : Int) := kx_nI (by omega)
  have k3 : (0 : Int32).toInt = 0 := by decide
  refine lv_if_lt (tgt := 19) hx hb dk_X2_differenceAt_1 (by decide) (fun c1 => ?_) (fun c1 => ?_)
  · skip
    have tc1 : ((nI k) : Int32).toInt < (0 : Int32).toInt := Int32.lt_iff_toInt_lt.mp c1
    exfalso
    omega
  · skip
    have tc1 : ¬ ((nI k) : Int32).toInt < (0 : Int32).toInt := fun h => c1 (Int32.lt_iff_toInt_lt.mpr h)
    refine lv_iload_n hx hb dk_X2_differenceAt_4 rfl (lv_at hl 1 rfl) ?_
    refine lv_bipush (v := 20) hx hb dk_X2_differenceAt_5 (by decide) ?_
    have k5 : (nI k).toInt = (((k) : Nat) : Int) := kx_nI (by omega)
    have k6 : (20 : Int32).toInt = 20 := by decide
    refine lv_icmp_ge (tgt := 19) hx hb dk_X2_differenceAt_7 (by decide) (fun c4 => ?_) (fun c4 => ?_)
    · skip
      have tc4 : (20 : Int32).toInt ≤ ((nI k) : Int32).toInt := Int32.le_iff_toInt_le.mp c4
      exfalso
      omega
    · skip
      have tc4 : ¬ (20 : Int32).toInt ≤ ((nI k) : Int32).toInt := fun h => c4 (Int32.le_iff_toInt_le.mpr h)
      refine lv_aload_n hx hb dk_X2_differenceAt_10 rfl (lv_at hl 0 rfl) ?_
      refine kx_get (v := .ref b2) G L (en_FTX2_ok (9, 8, 0) (by decide)) hf rfl dk_X2_differenceAt_11 ?_
      refine lv_iload_n hx hb dk_X2_differenceAt_14 rfl (lv_at hl 1 rfl) ?_
      refine kx_iald G L hg hti hk (by decide) dk_X2_differenceAt_15 ?_
      refine lv_goto (tgt := 20) hx hb dk_X2_differenceAt_16 (by decide) ?_
      exact vx_ret (W.widen (Nat.le_of_ble_eq_true rfl) (Nat.le_of_ble_eq_true rfl) (W.iret (v := (g k)) hx hb hr (fun T9 hT9 _ => ⟨⟨(g k), w, rfl, ⟨rfl, rfl⟩, by rw [hT9]; exact L.1, L.2.1⟩, L.2.2.F hT9⟩) L.2.2.2.2 dk_X2_differenceAt_20 hlocks))
set_option maxHeartbeats 4000000 in
theorem kx_X2_howManyCount {l : Launch} (hl9 : l.stackTraces = false) (D : va_G) {tys : List (ClassId × FieldType)} {w : va_W} {sz : Nat} (hD0 : va_D (va_A w sz) w) {b b2 q q2 n : Nat} {ix lo : Int32} {cI : ClassId} {g : Nat → Int32} (hti : tys[0]? = some (cI, .int)) (hf : w[q]? = some (b, .inr (8, [.ref b2, .int (nI n), .int ix, .int lo]))) (hg : w[q2]? = some (b2, .inl (cI, 20, .inl g))) (hn : n ≤ 20) : kx_C l yX2_howManyCount cX2_howManyCount 1 (some .int) 0 0 0 0 [.ref b] D tys w sz (fun res w1 => w1 = w ∧ res = some (.int (nI (ks_hm n)))) (fun _ => False) := by
  refine vx_ofW (cc := cX2_howManyCount) (maxL := 1) (ret := (some .int)) (by decide +kernel) rfl ?_
  intro p e s m args below meth c s₁ B9 hml hne hv
  obtain ⟨rfl, hsz, hP, hK, hT⟩ := hv
  subst hsz
  have hx := B9.exec
  have hb := B9.bytes
  have hr := B9.returns
  have hlocks := B9.notSynchronized
  have hts0 := atoms_spec (ws := Cond.code yX2_howManyCount cX2_howManyCount 1 (some .int) :: en_cw) B9.pre
  have hts : ∀ z ∈ en_cw, z.before _ s = true := fun z hz => hts0 z (List.mem_cons_of_mem _ hz)
  have hown : s.vm.findClass RX2 = some m.cls := findClass_of_methodNamed B9.named
  have G : kx_G p s m ([.ref b] : List Value).toArray c cX2_howManyCount RX2 D tys (va_A w s.heap.size) := ⟨hx, hb, hts, hown, hK, hT, fun q h => Or.inr h⟩
  have L : kx_H D (va_A w s.heap.size) s w s.heap [] := ⟨hP, ⟨hD0.1, fun j z hz => Or.inl ⟨j, z.2, hz⟩⟩, va_S.rf⟩
  have hl := lv_entry ([.ref b] : List Value) (n := 1) (Nat.le_of_ble_eq_true rfl)
  rw [lg_entry_eq]
  generalize (lg_sl ([.ref b] : List Value) ++ List.replicate (1 - (lg_sl ([.ref b] : List Value)).length) Slot.unset).toArray = ls at hl ⊢
  have hl : lv_has ls 1 [(0, .ref b)] := hl
  refine lv_aload_n hx hb dk_X2_howManyCount_0 rfl (lv_at hl 0 rfl) ?_
  refine kx_get (v := .int (nI n)) G L (en_FTX2_ok (15, 8, 1) (by decide)) hf rfl dk_X2_howManyCount_1 ?_
  refine lv_bipush (v := 19) hx hb dk_X2_howManyCount_4 (by decide) ?_
  have k2 : (nI n).toInt = (((n) : Nat) : Int) := kx_nI (by omega)
  have k3 : (19 : Int32).toInt = 19 := by decide
  refine lv_icmp_lt (tgt := 17) hx hb dk_X2_howManyCount_6 (by decide) (fun c1 => ?_) (fun c1 => ?_)
  · skip
    have tc1 : ((nI n) : Int32).toInt < (19 : Int32).toInt := Int32.lt_iff_toInt_lt.mp c1
    refine lv_aload_n hx hb dk_X2_howManyCount_17 rfl (lv_at hl 0 rfl) ?_
    refine kx_get (v := .int (nI n)) G L (en_FTX2_ok (15, 8, 1) (by decide)) hf rfl dk_X2_howManyCount_18 ?_
    refine lv_bipush (v := 15) hx hb dk_X2_howManyCount_21 (by decide) ?_
    have k5 : (nI n).toInt = (((n) : Nat) : Int) := kx_nI (by omega)
    have k6 : (15 : Int32).toInt = 15 := by decide
    refine lv_icmp_lt (tgt := 42) hx hb dk_X2_howManyCount_23 (by decide) (fun c4 => ?_) (fun c4 => ?_)
    · skip
      have tc4 : ((nI n) : Int32).toInt < (15 : Int32).toInt := Int32.lt_iff_toInt_lt.mp c4
      refine lv_aload_n hx hb dk_X2_howManyCount_42 rfl (lv_at hl 0 rfl) ?_
      refine kx_get (v := .int (nI n)) G L (en_FTX2_ok (15, 8, 1) (by decide)) hf rfl dk_X2_howManyCount_43 ?_
      refine lv_bipush (v := 9) hx hb dk_X2_howManyCount_46 (by decide) ?_
      have k8 : (nI n).toInt = (((n) : Nat) : Int) := kx_nI (by omega)
      have k9 : (9 : Int32).toInt = 9 := by decide
      refine lv_icmp_lt (tgt := 66) hx hb dk_X2_howManyCount_48 (by decide) (fun c7 => ?_) (fun c7 => ?_)
      · skip
        have tc7 : ((nI n) : Int32).toInt < (9 : Int32).toInt := Int32.lt_iff_toInt_lt.mp c7
        refine lv_aload_n hx hb dk_X2_howManyCount_66 rfl (lv_at hl 0 rfl) ?_
        refine kx_get (v := .int (nI n)) G L (en_FTX2_ok (15, 8, 1) (by decide)) hf rfl dk_X2_howManyCount_67 ?_
        refine lv_bipush (v := 6) hx hb dk_X2_howManyCount_70 (by decide) ?_
        have k11 : (nI n).toInt = (((n) : Nat) : Int) := kx_nI (by omega)
        have k12 : (6 : Int32).toInt = 6 := by decide
        refine lv_icmp_lt (tgt := 79) hx hb dk_X2_howManyCount_72 (by decide) (fun c10 => ?_) (fun c10 => ?_)
        · skip
          have tc10 : ((nI n) : Int32).toInt < (6 : Int32).toInt := Int32.lt_iff_toInt_lt.mp c10
          refine lv_iconst (v := 1) hx hb dk_X2_howManyCount_79 (by decide) ?_
          refine lv_topi (fun y13 ey13 => ?_)
          obtain rfl : y13 = (nI (ks_hm n)) := ey13.trans (by rw [show ks_hm n = 1 by (unfold ks_hm; (repeat' split) <;> omega)]; rfl)
          exact vx_ret (W.widen (Nat.le_of_ble_eq_true rfl) (Nat.le_of_ble_eq_true rfl) (W.iret (v := (nI (ks_hm n))) hx hb hr (fun T9 hT9 _ => ⟨⟨(nI (ks_hm n)), w, rfl, ⟨rfl, rfl⟩, by rw [hT9]; exact L.1, L.2.1⟩, L.2.2.F hT9⟩) L.2.2.2.2 dk_X2_howManyCount_80 hlocks))
        · skip
          have tc10 : ¬ ((nI n) : Int32).toInt < (6 : Int32).toInt := fun h => c10 (Int32.lt_iff_toInt_lt.mpr h)
          refine lv_iconst (v := 2) hx hb dk_X2_howManyCount_75 (by decide) ?_
          refine lv_goto (tgt := 80) hx hb dk_X2_howManyCount_76 (by decide) ?_
          refine lv_topi (fun y14 ey14 => ?_)
          obtain rfl : y14 = (nI (ks_hm n)) := ey14.trans (by rw [show ks_hm n = 2 by (unfold ks_hm; (repeat' split) <;> omega)]; rfl)
          exact vx_ret (W.widen (Nat.le_of_ble_eq_true rfl) (Nat.le_of_ble_eq_true rfl) (W.iret (v := (nI (ks_hm n))) hx hb hr (fun T9 hT9 _ => ⟨⟨(nI (ks_hm n)), w, rfl, ⟨rfl, rfl⟩, by rw [hT9]; exact L.1, L.2.1⟩, L.2.2.F hT9⟩) L.2.2.2.2 dk_X2_howManyCount_80 hlocks))
      · skip
        have tc7 : ¬ ((nI n) : Int32).toInt < (9 : Int32).toInt := fun h => c7 (Int32.lt_iff_toInt_lt.mpr h)
        refine lv_aload_n hx hb dk_X2_howManyCount_51 rfl (lv_at hl 0 rfl) ?_
        refine kx_get (v := .int (nI n)) G L (en_FTX2_ok (15, 8, 1) (by decide)) hf rfl dk_X2_howManyCount_52 ?_
        refine lv_bipush (v := 12) hx hb dk_X2_howManyCount_55 (by decide) ?_
        have k16 : (nI n).toInt = (((n) : Nat) : Int) := kx_nI (by omega)
        have k17 : (12 : Int32).toInt = 12 := by decide
        refine lv_icmp_lt (tgt := 64) hx hb dk_X2_howManyCount_57 (by decide) (fun c15 => ?_) (fun c15 => ?_)
        · skip
          have tc15 : ((nI n) : Int32).toInt < (12 : Int32).toInt := Int32.lt_iff_toInt_lt.mp c15
          refine lv_iconst (v := 3) hx hb dk_X2_howManyCount_64 (by decide) ?_
          refine lv_topi (fun y18 ey18 => ?_)
          obtain rfl : y18 = (nI (ks_hm n)) := ey18.trans (by rw [show ks_hm n = 3 by (unfold ks_hm; (repeat' split) <;> omega)]; rfl)
          exact vx_ret (W.widen (Nat.le_of_ble_eq_true rfl) (Nat.le_of_ble_eq_true rfl) (W.iret (v := (nI (ks_hm n))) hx hb hr (fun T9 hT9 _ => ⟨⟨(nI (ks_hm n)), w, rfl, ⟨rfl, rfl⟩, by rw [hT9]; exact L.1, L.2.1⟩, L.2.2.F hT9⟩) L.2.2.2.2 dk_X2_howManyCount_65 hlocks))
        · skip
          have tc15 : ¬ ((nI n) : Int32).toInt < (12 : Int32).toInt := fun h => c15 (Int32.lt_iff_toInt_lt.mpr h)
          refine lv_iconst (v := 4) hx hb dk_X2_howManyCount_60 (by decide) ?_
          refine lv_goto (tgt := 65) hx hb dk_X2_howManyCount_61 (by decide) ?_
          refine lv_topi (fun y19 ey19 => ?_)
          obtain rfl : y19 = (nI (ks_hm n)) := ey19.trans (by rw [show ks_hm n = 4 by (unfold ks_hm; (repeat' split) <;> omega)]; rfl)
          exact vx_ret (W.widen (Nat.le_of_ble_eq_true rfl) (Nat.le_of_ble_eq_true rfl) (W.iret (v := (nI (ks_hm n))) hx hb hr (fun T9 hT9 _ => ⟨⟨(nI (ks_hm n)), w, rfl, ⟨rfl, rfl⟩, by rw [hT9]; exact L.1, L.2.1⟩, L.2.2.F hT9⟩) L.2.2.2.2 dk_X2_howManyCount_65 hlocks))
    · skip
      have tc4 : ¬ ((nI n) : Int32).toInt < (15 : Int32).toInt := fun h => c4 (Int32.lt_iff_toInt_lt.mpr h)
      refine lv_aload_n hx hb dk_X2_howManyCount_26 rfl (lv_at hl 0 rfl) ?_
      refine kx_get (v := .int (nI n)) G L (en_FTX2_ok (15, 8, 1) (by decide)) hf rfl dk_X2_howManyCount_27 ?_
      refine lv_bipush (v := 17) hx hb dk_X2_howManyCount_30 (by decide) ?_
      have k21 : (nI n).toInt = (((n) : Nat) : Int) := kx_nI (by omega)
      have k22 : (17 : Int32).toInt = 17 := by decide
      refine lv_icmp_lt (tgt := 40) hx hb dk_X2_howManyCount_32 (by decide) (fun c20 => ?_) (fun c20 => ?_)
      · skip
        have tc20 : ((nI n) : Int32).toInt < (17 : Int32).toInt := Int32.lt_iff_toInt_lt.mp c20
        refine lv_iconst (v := 5) hx hb dk_X2_howManyCount_40 (by decide) ?_
        refine lv_topi (fun y23 ey23 => ?_)
        obtain rfl : y23 = (nI (ks_hm n)) := ey23.trans (by rw [show ks_hm n = 5 by (unfold ks_hm; (repeat' split) <;> omega)]; rfl)
        exact vx_ret (W.widen (Nat.le_of_ble_eq_true rfl) (Nat.le_of_ble_eq_true rfl) (W.iret (v := (nI (ks_hm n))) hx hb hr (fun T9 hT9 _ => ⟨⟨(nI (ks_hm n)), w, rfl, ⟨rfl, rfl⟩, by rw [hT9]; exact L.1, L.2.1⟩, L.2.2.F hT9⟩) L.2.2.2.2 dk_X2_howManyCount_41 hlocks))
      · skip
        have tc20 : ¬ ((nI n) : Int32).toInt < (17 : Int32).toInt := fun h => c20 (Int32.lt_iff_toInt_lt.mpr h)
        refine lv_bipush (v := 6) hx hb dk_X2_howManyCount_35 (by decide) ?_
        refine lv_goto (tgt := 41) hx hb dk_X2_howManyCount_37 (by decide) ?_
        refine lv_topi (fun y24 ey24 => ?_)
        obtain rfl : y24 = (nI (ks_hm n)) := ey24.trans (by rw [show ks_hm n = 6 by (unfold ks_hm; (repeat' split) <;> omega)]; rfl)
        exact vx_ret (W.widen (Nat.le_of_ble_eq_true rfl) (Nat.le_of_ble_eq_true rfl) (W.iret (v := (nI (ks_hm n))) hx hb hr (fun T9 hT9 _ => ⟨⟨(nI (ks_hm n)), w, rfl, ⟨rfl, rfl⟩, by rw [hT9]; exact L.1, L.2.1⟩, L.2.2.F hT9⟩) L.2.2.2.2 dk_X2_howManyCount_41 hlocks))
  · skip
    have tc1 : ¬ ((nI n) : Int32).toInt < (19 : Int32).toInt := fun h => c1 (Int32.lt_iff_toInt_lt.mpr h)
    refine lv_aload_n hx hb dk_X2_howManyCount_9 rfl (lv_at hl 0 rfl) ?_
    refine kx_get (v := .int (nI n)) G L (en_FTX2_ok (15, 8, 1) (by decide)) hf rfl dk_X2_howManyCount_10 ?_
    refine lv_bipush (v := 12) hx hb dk_X2_howManyCount_13 (by decide) ?_
    refine lv_isub hx hb dk_X2_howManyCount_15 ?_
    refine lv_topi (fun y25 ey25 => ?_)
    obtain rfl : y25 = (nI (n - 12)) := ey25.trans (ks_subn (a := n) (b := 12) (by omega) (by omega))
    refine lv_topi (fun y26 ey26 => ?_)
    obtain rfl : y26 = (nI (ks_hm n)) := ey26.trans (by rw [show ks_hm n = n - 12 by (unfold ks_hm; (repeat' split) <;> omega)])
    exact vx_ret (W.widen (Nat.le_of_ble_eq_true rfl) (Nat.le_of_ble_eq_true rfl) (W.iret (v := (nI (ks_hm n))) hx hb hr (fun T9 hT9 _ => ⟨⟨(nI (ks_hm n)), w, rfl, ⟨rfl, rfl⟩, by rw [hT9]; exact L.1, L.2.1⟩, L.2.2.F hT9⟩) L.2.2.2.2 dk_X2_howManyCount_16 hlocks))
set_option maxHeartbeats 4000000 in
theorem kx_X2_howManyAhead {l : Launch} (hl9 : l.stackTraces = false) (D : va_G) {tys : List (ClassId × FieldType)} {w : va_W} {sz : Nat} (hD0 : va_D (va_A w sz) w) {b b2 q q2 n : Nat} {ix lo : Int32} {cI : ClassId} {g : Nat → Int32} {j : Nat} (hti : tys[0]? = some (cI, .int)) (hf : w[q]? = some (b, .inr (8, [.ref b2, .int (nI n), .int ix, .int lo]))) (hg : w[q2]? = some (b2, .inl (cI, 20, .inl g))) (hn : n ≤ 20) (hj : j < 20) : kx_C l yX2_howManyAhead cX2_howManyAhead 5 (some .int) 1 0 0 0 [.ref b, .int (nI j)] D tys w sz (fun res w1 => w1 = w ∧ res = some (.int (nI (ks_ha g j n)))) (fun _ => False) := by
  refine vx_ofW (cc := cX2_howManyAhead) (maxL := 5) (ret := (some .int)) (by decide +kernel) rfl ?_
  intro p e s m args below meth c s₁ B9 hml hne hv
  obtain ⟨rfl, hsz, hP, hK, hT⟩ := hv
  subst hsz
  have hx := B9.exec
  have hb := B9.bytes
  have hr := B9.returns
  have hlocks := B9.notSynchronized
  have hts0 := atoms_spec (ws := Cond.code yX2_howManyAhead cX2_howManyAhead 5 (some .int) :: en_cw) B9.pre
  have hts : ∀ z ∈ en_cw, z.before _ s = true := fun z hz => hts0 z (List.mem_cons_of_mem _ hz)
  have hown : s.vm.findClass RX2 = some m.cls := findClass_of_methodNamed B9.named
  have G : kx_G p s m ([.ref b, .int (nI j)] : List Value).toArray c cX2_howManyAhead RX2 D tys (va_A w s.heap.size) := ⟨hx, hb, hts, hown, hK, hT, fun q h => Or.inr h⟩
  have L : kx_H D (va_A w s.heap.size) s w s.heap [] := ⟨hP, ⟨hD0.1, fun j z hz => Or.inl ⟨j, z.2, hz⟩⟩, va_S.rf⟩
  have hl := lv_entry ([.ref b, .int (nI j)] : List Value) (n := 5) (Nat.le_of_ble_eq_true rfl)
  rw [lg_entry_eq]
  generalize (lg_sl ([.ref b, .int (nI j)] : List Value) ++ List.replicate (5 - (lg_sl ([.ref b, .int (nI j)] : List Value)).length) Slot.unset).toArray = ls at hl ⊢
  have hl : lv_has ls 5 [(0, .ref b), (1, .int (nI j))] := hl
  refine lv_iconst (v := 0) hx hb dk_X2_howManyAhead_0 (by decide) ?_
  refine lv_istore_n (lv' := [(2, .int 0), (0, .ref b), (1, .int (nI j))]) hx hb dk_X2_howManyAhead_1 rfl hl (by decide) rfl (fun ls hl => ?_)
  refine lv_iconst (v := 0) hx hb dk_X2_howManyAhead_2 (by decide) ?_
  refine lv_istore_n (lv' := [(3, .int 0), (2, .int 0), (0, .ref b), (1, .int (nI j))]) hx hb dk_X2_howManyAhead_3 rfl hl (by decide) rfl (fun ls hl => ?_)
  have loop : ∀ (d : Nat) (k : Nat), k + d = n → ∀ (a : Nat), a = ks_ha g j k → ∀ (H : Heap) (locs : List Loc), kx_H D (va_A w s.heap.size) s w H locs → ∀ (ls : Array Slot), lv_has ls 5 [(3, .int (nI k)), (2, .int (nI a)), (1, .int (nI j)), (0, .ref b)] → W p l e (headSpec (Cond.code yX2_howManyAhead cX2_howManyAhead 5 (some .int) :: en_cw) (en_rm 1 (0, 0))).room s m ([.ref b, .int (nI j)] : List Value).toArray below meth c H locs (0) (0) (vx_MQ below (kx_Q 0 D (fun res w1 => w1 = w ∧ res = some (.int (nI (ks_ha g j n)))) (va_A w s.heap.size)) (kx_XC D w (fun _ => False) (va_A w s.heap.size)) ([.ref b, .int (nI j)] : List Value).toArray s 0 0 (va_A w s.heap.size)) (F0 m 4 ls []) := by
    intro d
    induction d with
    | zero =>
      intro k hk a ha H locs L ls hl
      refine lv_iload_n hx hb dk_X2_howManyAhead_4 rfl (lv_at hl 0 rfl) ?_
      refine lv_aload_n hx hb dk_X2_howManyAhead_5 rfl (lv_at hl 3 rfl) ?_
      refine kx_get (v := .int (nI n)) G L (en_FTX2_ok (15, 8, 1) (by decide)) hf rfl dk_X2_howManyAhead_6 ?_
      refine lv_icmp_ge (tgt := 51) hx hb dk_X2_howManyAhead_9 (by decide) (fun _ => ?_) (fun c9 => absurd (nI_le (a := n) (b := k) (by omega) (by omega)) c9)
      have e9 : k = n := by omega
      rw [e9] at ha
      refine lv_iload_n hx hb dk_X2_howManyAhead_51 rfl (lv_at hl 1 rfl) ?_
      exact vx_ret (W.widen (Nat.le_of_ble_eq_true rfl) (Nat.le_of_ble_eq_true rfl) (W.iret (v := (nI a)) hx hb hr (fun T9 hT9 _ => ⟨⟨(nI a), w, rfl, ⟨rfl, by rw [ha]⟩, by rw [hT9]; exact L.1, L.2.1⟩, L.2.2.F hT9⟩) L.2.2.2.2 dk_X2_howManyAhead_52 hlocks))
    | succ d ih =>
      intro k hk a ha H locs L ls hl
      refine lv_iload_n hx hb dk_X2_howManyAhead_4 rfl (lv_at hl 0 rfl) ?_
      refine lv_aload_n hx hb dk_X2_howManyAhead_5 rfl (lv_at hl 3 rfl) ?_
      refine kx_get (v := .int (nI n)) G L (en_FTX2_ok (15, 8, 1) (by decide)) hf rfl dk_X2_howManyAhead_6 ?_
      refine lv_icmp_ge (tgt := 51) hx hb dk_X2_howManyAhead_9 (by decide) (fun c9 => absurd c9 (nI_ge (a := k) (b := n) (by omega) (by omega))) (fun _ => ?_)
      have ak := ks_ha_le (g := g) (j := j) k
      refine lv_aload_n hx hb dk_X2_howManyAhead_12 rfl (lv_at hl 3 rfl) ?_
      refine lv_iload_n hx hb dk_X2_howManyAhead_13 rfl (lv_at hl 0 rfl) ?_
      refine kx_cV (As := [.int (nI k)]) (rest := []) (q := q) (ci := 8) G L (kx_X2_differenceAt hl9 D (kx_D1 L) hti hf hg hn (k := k) (by omega)) gc_RX2_55v hf rfl rfl rfl (hml.trans hl.1.symm) ⟨Nat.le_of_ble_eq_true rfl, Nat.le_of_ble_eq_true rfl⟩ ⟨Nat.le_of_ble_eq_true rfl, Nat.le_of_ble_eq_true rfl⟩ (Nat.le_of_ble_eq_true rfl) dk_X2_howManyAhead_14 (fun _ _ _ _ _ h9 => h9.elim) (fun res w1 H locs hrv hq1 L => ?_)
      obtain ⟨ew1, hq1⟩ := hq1
      have ew1 := ew1.symm
      subst ew1
      obtain rfl := hq1
      refine lv_aload_n hx hb dk_X2_howManyAhead_17 rfl (lv_at hl 3 rfl) ?_
      refine lv_iload_n hx hb dk_X2_howManyAhead_18 rfl (lv_at hl 2 rfl) ?_
      refine kx_cV (As := [.int (nI j)]) (rest := [.int (g k)]) (q := q) (ci := 8) G L (kx_X2_differenceAt hl9 D (kx_D1 L) hti hf hg hn (k := j) hj) gc_RX2_55v hf rfl rfl rfl (hml.trans hl.1.symm) ⟨Nat.le_of_ble_eq_true rfl, Nat.le_of_ble_eq_true rfl⟩ ⟨Nat.le_of_ble_eq_true rfl, Nat.le_of_ble_eq_true rfl⟩ (Nat.le_of_ble_eq_true rfl) dk_X2_howManyAhead_19 (fun _ _ _ _ _ h9 => h9.elim) (fun res w2 H locs hrv hq2 L => ?_)
      obtain ⟨ew2, hq2⟩ := hq2
      have ew2 := ew2.symm
      subst ew2
      obtain rfl := hq2
      refine kx_cS (As := [.int (g k), .int (g j)]) (rest := []) G L (kx_J6_compare_7cf53 hl9 D (kx_D1 L)) gc_RX2_61s rfl (hml.trans hl.1.symm) ⟨Nat.le_of_ble_eq_true rfl, Nat.le_of_ble_eq_true rfl⟩ ⟨Nat.le_of_ble_eq_true rfl, Nat.le_of_ble_eq_true rfl⟩ (Nat.le_of_ble_eq_true rfl) dk_X2_howManyAhead_22 (fun _ _ _ _ _ h9 => h9.elim) (fun res w3 H locs hrv hq3 L => ?_)
      obtain ⟨ew3, hq3⟩ := hq3
      have ew3 := ew3.symm
      subst ew3
      rcases hq3 with ⟨rfl, c0⟩ | ⟨rfl, c0⟩ | ⟨rfl, c0⟩
      · skip
        refine lv_istore (lv' := [(4, .int (-1)), (3, .int (nI k)), (2, .int (nI a)), (1, .int (nI j)), (0, .ref b)]) hx hb dk_X2_howManyAhead_25 hl (by decide) rfl (fun ls hl => ?_)
        refine lv_iload hx hb dk_X2_howManyAhead_27 (lv_at hl 0 rfl) ?_
        refine lv_if_lt (tgt := 42) hx hb dk_X2_howManyAhead_29 (by decide) (fun _ => ?_) (fun c9 => absurd (by decide) c9)
        refine lv_iinc (v := (nI (a + 1))) (lv' := [(2, .int (nI (a + 1))), (4, .int (-1)), (3, .int (nI k)), (1, .int (nI j)), (0, .ref b)]) hx hb dk_X2_howManyAhead_42 hl (k := 2) rfl (kx_inc (by omega)) (by decide) rfl (fun ls hl => ?_)
        refine lv_iinc (v := (nI (k + 1))) (lv' := [(3, .int (nI (k + 1))), (2, .int (nI (a + 1))), (4, .int (-1)), (1, .int (nI j)), (0, .ref b)]) hx hb dk_X2_howManyAhead_45 hl (k := 2) rfl (kx_inc (by omega)) (by decide) rfl (fun ls hl => ?_)
        refine lv_goto (tgt := 4) hx hb dk_X2_howManyAhead_48 (by decide) ?_
        exact ih (k + 1) (by omega) (a + 1) (by rw [ks_ha_1 (g := g) (j := j) (k := k) (Or.inl c0), ha]) H locs L ls (lv_sub hl [0, 1, 3, 4] rfl)
      · skip
        refine lv_istore (lv' := [(4, .int 0), (3, .int (nI k)), (2, .int (nI a)), (1, .int (nI j)), (0, .ref b)]) hx hb dk_X2_howManyAhead_25 hl (by decide) rfl (fun ls hl => ?_)
        refine lv_iload hx hb dk_X2_howManyAhead_27 (lv_at hl 0 rfl) ?_
        refine lv_if_lt (tgt := 42) hx hb dk_X2_howManyAhead_29 (by decide) (fun c9 => absurd c9 (by decide)) (fun _ => ?_)
        refine lv_iload hx hb dk_X2_howManyAhead_32 (lv_at hl 0 rfl) ?_
        refine lv_if_ne (tgt := 45) hx hb dk_X2_howManyAhead_34 (by decide) (fun c9 => absurd (by decide) c9) (fun _ => ?_)
        refine lv_iload_n hx hb dk_X2_howManyAhead_37 rfl (lv_at hl 1 rfl) ?_
        refine lv_iload_n hx hb dk_X2_howManyAhead_38 rfl (lv_at hl 3 rfl) ?_
        have k5 : (nI k).toInt = (((k) : Nat) : Int) := kx_nI (by omega)
        have k6 : (nI j).toInt = (((j) : Nat) : Int) := kx_nI (by omega)
        refine lv_icmp_ge (tgt := 45) hx hb dk_X2_howManyAhead_39 (by decide) (fun c4 => ?_) (fun c4 => ?_)
        · skip
          have tc4 : ((nI j) : Int32).toInt ≤ ((nI k) : Int32).toInt := Int32.le_iff_toInt_le.mp c4
          refine lv_iinc (v := (nI (k + 1))) (lv' := [(3, .int (nI (k + 1))), (4, .int 0), (2, .int (nI a)), (1, .int (nI j)), (0, .ref b)]) hx hb dk_X2_howManyAhead_45 hl (k := 1) rfl (kx_inc (by omega)) (by decide) rfl (fun ls hl => ?_)
          refine lv_goto (tgt := 4) hx hb dk_X2_howManyAhead_48 (by decide) ?_
          exact ih (k + 1) (by omega) a (by rw [ks_ha_2 (g := g) (j := j) (k := k) (fun h => by rcases h with h | h; rw [c0] at h; omega; exact absurd h.2 (by omega)), ha]) H locs L ls (lv_sub hl [0, 2, 3, 4] rfl)
        · skip
          have tc4 : ¬ ((nI j) : Int32).toInt ≤ ((nI k) : Int32).toInt := fun h => c4 (Int32.le_iff_toInt_le.mpr h)
          refine lv_iinc (v := (nI (a + 1))) (lv' := [(2, .int (nI (a + 1))), (4, .int 0), (3, .int (nI k)), (1, .int (nI j)), (0, .ref b)]) hx hb dk_X2_howManyAhead_42 hl (k := 2) rfl (kx_inc (by omega)) (by decide) rfl (fun ls hl => ?_)
          refine lv_iinc (v := (nI (k + 1))) (lv' := [(3, .int (nI (k + 1))), (2, .int (nI (a + 1))), (4, .int 0), (1, .int (nI j)), (0, .ref b)]) hx hb dk_X2_howManyAhead_45 hl (k := 2) rfl (kx_inc (by omega)) (by decide) rfl (fun ls hl => ?_)
          refine lv_goto (tgt := 4) hx hb dk_X2_howManyAhead_48 (by decide) ?_
          exact ih (k + 1) (by omega) (a + 1) (by rw [ks_ha_1 (g := g) (j := j) (k := k) (Or.inr ⟨c0, by omega⟩), ha]) H locs L ls (lv_sub hl [0, 1, 3, 4] rfl)
      · skip
        refine lv_istore (lv' := [(4, .int 1), (3, .int (nI k)), (2, .int (nI a)), (1, .int (nI j)), (0, .ref b)]) hx hb dk_X2_howManyAhead_25 hl (by decide) rfl (fun ls hl => ?_)
        refine lv_iload hx hb dk_X2_howManyAhead_27 (lv_at hl 0 rfl) ?_
        refine lv_if_lt (tgt := 42) hx hb dk_X2_howManyAhead_29 (by decide) (fun c9 => absurd c9 (by decide)) (fun _ => ?_)
        refine lv_iload hx hb dk_X2_howManyAhead_32 (lv_at hl 0 rfl) ?_
        refine lv_if_ne (tgt := 45) hx hb dk_X2_howManyAhead_34 (by decide) (fun _ => ?_) (fun c9 => absurd c9 (by decide))
        refine lv_iinc (v := (nI (k + 1))) (lv' := [(3, .int (nI (k + 1))), (4, .int 1), (2, .int (nI a)), (1, .int (nI j)), (0, .ref b)]) hx hb dk_X2_howManyAhead_45 hl (k := 1) rfl (kx_inc (by omega)) (by decide) rfl (fun ls hl => ?_)
        refine lv_goto (tgt := 4) hx hb dk_X2_howManyAhead_48 (by decide) ?_
        exact ih (k + 1) (by omega) a (by rw [ks_ha_2 (g := g) (j := j) (k := k) (fun h => by rcases h with h | h; omega; rw [h.1] at c0; omega), ha]) H locs L ls (lv_sub hl [0, 2, 3, 4] rfl)
  exact loop n 0 (by omega) 0 (by rw [ks_ha_0]) _ _ L ls (lv_sub hl [0, 1, 3, 2] rfl)
set_option maxHeartbeats 4000000 in
theorem kx_X2_mean {l : Launch} (hl9 : l.stackTraces = false) (D : va_G) {tys : List (ClassId × FieldType)} {w : va_W} {sz : Nat} (hD0 : va_D (va_A w sz) w) {b b2 q q2 n : Nat} {ix lo : Int32} {cI : ClassId} {g : Nat → Int32} (hti : tys[0]? = some (cI, .int)) (hf : w[q]? = some (b, .inr (8, [.ref b2, .int (nI n), .int ix, .int lo]))) (hg : w[q2]? = some (b2, .inl (cI, 20, .inl g))) (hn : n ≤ 20) : kx_C l yX2_mean cX2_mean 4 (some .int) 2 0 0 0 [.ref b] D tys w sz (fun res w1 => w1 = w ∧ res = some (.int (ks_mn g n))) (fun _ => False) := by
  refine vx_ofW (cc := cX2_mean) (maxL := 4) (ret := (some .int)) (by decide +kernel) rfl ?_
  intro p e s m args below meth c s₁ B9 hml hne hv
  obtain ⟨rfl, hsz, hP, hK, hT⟩ := hv
  subst hsz
  have hx := B9.exec
  have hb := B9.bytes
  have hr := B9.returns
  have hlocks := B9.notSynchronized
  have hts0 := atoms_spec (ws := Cond.code yX2_mean cX2_mean 4 (some .int) :: en_cw) B9.pre
  have hts : ∀ z ∈ en_cw, z.before _ s = true := fun z hz => hts0 z (List.mem_cons_of_mem _ hz)
  have hown : s.vm.findClass RX2 = some m.cls := findClass_of_methodNamed B9.named
  have G : kx_G p s m ([.ref b] : List Value).toArray c cX2_mean RX2 D tys (va_A w s.heap.size) := ⟨hx, hb, hts, hown, hK, hT, fun q h => Or.inr h⟩
  have L : kx_H D (va_A w s.heap.size) s w s.heap [] := ⟨hP, ⟨hD0.1, fun j z hz => Or.inl ⟨j, z.2, hz⟩⟩, va_S.rf⟩
  have hl := lv_entry ([.ref b] : List Value) (n := 4) (Nat.le_of_ble_eq_true rfl)
  rw [lg_entry_eq]
  generalize (lg_sl ([.ref b] : List Value) ++ List.replicate (4 - (lg_sl ([.ref b] : List Value)).length) Slot.unset).toArray = ls at hl ⊢
  have hl : lv_has ls 4 [(0, .ref b)] := hl
  have hm9 := ks_hm_b hn
  refine lv_aload_n hx hb dk_X2_mean_0 rfl (lv_at hl 0 rfl) ?_
  refine kx_cV (As := []) (rest := []) (q := q) (ci := 8) G L (kx_X2_howManyCount hl9 D (kx_D1 L) hti hf hg hn) gc_RX2_49v hf rfl rfl rfl (hml.trans hl.1.symm) ⟨Nat.le_of_ble_eq_true rfl, Nat.le_of_ble_eq_true rfl⟩ ⟨Nat.le_of_ble_eq_true rfl, Nat.le_of_ble_eq_true rfl⟩ (Nat.le_of_ble_eq_true rfl) dk_X2_mean_1 (fun _ _ _ _ _ h9 => h9.elim) (fun res w1 H locs hrv hq1 L => ?_)
  obtain ⟨ew1, hq1⟩ := hq1
  have ew1 := ew1.symm
  subst ew1
  obtain rfl := hq1
  refine lv_istore_n (lv' := [(1, .int (nI (ks_hm n))), (0, .ref b)]) hx hb dk_X2_mean_4 rfl hl (by decide) rfl (fun ls hl => ?_)
  refine lv_iload_n hx hb dk_X2_mean_5 rfl (lv_at hl 0 rfl) ?_
  refine lv_iconst (v := 1) hx hb dk_X2_mean_6 (by decide) ?_
  have k3 : (nI (ks_hm n)).toInt = ((((ks_hm n)) : Nat) : Int) := kx_nI (by omega)
  have k4 : (1 : Int32).toInt = 1 := by decide
  refine lv_icmp_ge (tgt := 12) hx hb dk_X2_mean_7 (by decide) (fun c2 => ?_) (fun c2 => ?_)
  · skip
    have tc2 : (1 : Int32).toInt ≤ ((nI (ks_hm n)) : Int32).toInt := Int32.le_iff_toInt_le.mp c2
    refine lv_iconst (v := 0) hx hb dk_X2_mean_12 (by decide) ?_
    refine lv_istore_n (lv' := [(2, .int 0), (1, .int (nI (ks_hm n))), (0, .ref b)]) hx hb dk_X2_mean_13 rfl hl (by decide) rfl (fun ls hl => ?_)
    refine lv_iconst (v := 0) hx hb dk_X2_mean_14 (by decide) ?_
    refine lv_istore_n (lv' := [(3, .int 0), (2, .int 0), (1, .int (nI (ks_hm n))), (0, .ref b)]) hx hb dk_X2_mean_15 rfl hl (by decide) rfl (fun ls hl => ?_)
    have loop : ∀ (d : Nat) (k : Nat), k + d = n → ∀ (v : Int32), v = ks_sm g n k → ∀ (H : Heap) (locs : List Loc), kx_H D (va_A w s.heap.size) s w H locs → ∀ (ls : Array Slot), lv_has ls 4 [(3, .int (nI k)), (2, .int v), (1, .int (nI (ks_hm n))), (0, .ref b)] → W p l e (headSpec (Cond.code yX2_mean cX2_mean 4 (some .int) :: en_cw) (en_rm 2 (0, 0))).room s m ([.ref b] : List Value).toArray below meth c H locs (0) (0) (vx_MQ below (kx_Q 0 D (fun res w1 => w1 = w ∧ res = some (.int (ks_mn g n))) (va_A w s.heap.size)) (kx_XC D w (fun _ => False) (va_A w s.heap.size)) ([.ref b] : List Value).toArray s 0 0 (va_A w s.heap.size)) (F0 m 16 ls []) := by
      intro d
      induction d with
      | zero =>
        intro k hk v hv H locs L ls hl
        refine lv_iload_n hx hb dk_X2_mean_16 rfl (lv_at hl 0 rfl) ?_
        refine lv_aload_n hx hb dk_X2_mean_17 rfl (lv_at hl 3 rfl) ?_
        refine kx_get (v := .int (nI n)) G L (en_FTX2_ok (15, 8, 1) (by decide)) hf rfl dk_X2_mean_18 ?_
        refine lv_icmp_ge (tgt := 47) hx hb dk_X2_mean_21 (by decide) (fun _ => ?_) (fun c9 => absurd (nI_le (a := n) (b := k) (by omega) (by omega)) c9)
        have e9 : k = n := by omega
        rw [e9] at hv
        refine lv_iload_n hx hb dk_X2_mean_47 rfl (lv_at hl 1 rfl) ?_
        refine lv_iload_n hx hb dk_X2_mean_48 rfl (lv_at hl 2 rfl) ?_
        have hne0 : ¬ nI (ks_hm n) = 0 := fun e => by have e := congrArg Int32.toInt e; rw [kx_nI (by omega), show (0 : Int32).toInt = 0 from rfl] at e; omega
        refine kx_cS (As := [.int v, .int (nI (ks_hm n))]) (rest := []) G L (kx_J9_floorDiv_7cf53 hl9 D (kx_D1 L) hne0) gc_RX2_58s rfl (hml.trans hl.1.symm) ⟨Nat.le_of_ble_eq_true rfl, Nat.le_of_ble_eq_true rfl⟩ ⟨Nat.le_of_ble_eq_true rfl, Nat.le_of_ble_eq_true rfl⟩ (Nat.le_of_ble_eq_true rfl) dk_X2_mean_49 (fun _ _ _ _ _ h9 => h9.elim) (fun res w5 H locs hrv hq5 L => ?_)
        obtain ⟨ew5, hq5⟩ := hq5
        have ew5 := ew5.symm
        subst ew5
        obtain rfl := hq5
        exact vx_ret (W.widen (Nat.le_of_ble_eq_true rfl) (Nat.le_of_ble_eq_true rfl) (W.iret (v := (ks_fd v (nI (ks_hm n)))) hx hb hr (fun T9 hT9 _ => ⟨⟨(ks_fd v (nI (ks_hm n))), w, rfl, ⟨rfl, by rw [hv]; rfl⟩, by rw [hT9]; exact L.1, L.2.1⟩, L.2.2.F hT9⟩) L.2.2.2.2 dk_X2_mean_52 hlocks))
      | succ d ih =>
        intro k hk v hv H locs L ls hl
        refine lv_iload_n hx hb dk_X2_mean_16 rfl (lv_at hl 0 rfl) ?_
        refine lv_aload_n hx hb dk_X2_mean_17 rfl (lv_at hl 3 rfl) ?_
        refine kx_get (v := .int (nI n)) G L (en_FTX2_ok (15, 8, 1) (by decide)) hf rfl dk_X2_mean_18 ?_
        refine lv_icmp_ge (tgt := 47) hx hb dk_X2_mean_21 (by decide) (fun c9 => absurd c9 (nI_ge (a := k) (b := n) (by omega) (by omega))) (fun _ => ?_)
        have ha9 := ks_ha_le (g := g) (j := k) n
        refine lv_aload_n hx hb dk_X2_mean_24 rfl (lv_at hl 3 rfl) ?_
        refine lv_iload_n hx hb dk_X2_mean_25 rfl (lv_at hl 0 rfl) ?_
        refine kx_cV (As := [.int (nI k)]) (rest := []) (q := q) (ci := 8) G L (kx_X2_howManyAhead hl9 D (kx_D1 L) hti hf hg hn (j := k) (by omega)) gc_RX2_52v hf rfl rfl rfl (hml.trans hl.1.symm) ⟨Nat.le_of_ble_eq_true rfl, Nat.le_of_ble_eq_true rfl⟩ ⟨Nat.le_of_ble_eq_true rfl, Nat.le_of_ble_eq_true rfl⟩ (Nat.le_of_ble_eq_true rfl) dk_X2_mean_26 (fun _ _ _ _ _ h9 => h9.elim) (fun res w6 H locs hrv hq6 L => ?_)
        obtain ⟨ew6, hq6⟩ := hq6
        have ew6 := ew6.symm
        subst ew6
        obtain rfl := hq6
        refine lv_iload_n hx hb dk_X2_mean_29 rfl (lv_at hl 2 rfl) ?_
        have k8 : (nI (ks_ha g k n)).toInt = ((((ks_ha g k n)) : Nat) : Int) := kx_nI (by omega)
        have k9 : (nI (ks_hm n)).toInt = ((((ks_hm n)) : Nat) : Int) := kx_nI (by omega)
        refine lv_icmp_ge (tgt := 41) hx hb dk_X2_mean_30 (by decide) (fun c7 => ?_) (fun c7 => ?_)
        · skip
          have tc7 : ((nI (ks_hm n)) : Int32).toInt ≤ ((nI (ks_ha g k n)) : Int32).toInt := Int32.le_iff_toInt_le.mp c7
          refine lv_iinc (v := (nI (k + 1))) (lv' := [(3, .int (nI (k + 1))), (2, .int v), (1, .int (nI (ks_hm n))), (0, .ref b)]) hx hb dk_X2_mean_41 hl (k := 0) rfl (kx_inc (by omega)) (by decide) rfl (fun ls hl => ?_)
          refine lv_goto (tgt := 16) hx hb dk_X2_mean_44 (by decide) ?_
          exact ih (k + 1) (by omega) v (by rw [ks_sm_2 (g := g) (n := n) (k := k) (by omega), hv]) H locs L ls (lv_sub hl [0, 1, 2, 3] rfl)
        · skip
          have tc7 : ¬ ((nI (ks_hm n)) : Int32).toInt ≤ ((nI (ks_ha g k n)) : Int32).toInt := fun h => c7 (Int32.le_iff_toInt_le.mpr h)
          refine lv_iload_n hx hb dk_X2_mean_33 rfl (lv_at hl 1 rfl) ?_
          refine lv_aload_n hx hb dk_X2_mean_34 rfl (lv_at hl 3 rfl) ?_
          refine lv_iload_n hx hb dk_X2_mean_35 rfl (lv_at hl 0 rfl) ?_
          refine kx_cV (As := [.int (nI k)]) (rest := [.int v]) (q := q) (ci := 8) G L (kx_X2_differenceAt hl9 D (kx_D1 L) hti hf hg hn (k := k) (by omega)) gc_RX2_55v hf rfl rfl rfl (hml.trans hl.1.symm) ⟨Nat.le_of_ble_eq_true rfl, Nat.le_of_ble_eq_true rfl⟩ ⟨Nat.le_of_ble_eq_true rfl, Nat.le_of_ble_eq_true rfl⟩ (Nat.le_of_ble_eq_true rfl) dk_X2_mean_36 (fun _ _ _ _ _ h9 => h9.elim) (fun res w10 H locs hrv hq10 L => ?_)
          obtain ⟨ew10, hq10⟩ := hq10
          have ew10 := ew10.symm
          subst ew10
          obtain rfl := hq10
          refine lv_iadd hx hb dk_X2_mean_39 ?_
          refine lv_istore_n (lv' := [(2, .int (v + (g k))), (3, .int (nI k)), (1, .int (nI (ks_hm n))), (0, .ref b)]) hx hb dk_X2_mean_40 rfl hl (by decide) rfl (fun ls hl => ?_)
          refine lv_iinc (v := (nI (k + 1))) (lv' := [(3, .int (nI (k + 1))), (2, .int (v + (g k))), (1, .int (nI (ks_hm n))), (0, .ref b)]) hx hb dk_X2_mean_41 hl (k := 1) rfl (kx_inc (by omega)) (by decide) rfl (fun ls hl => ?_)
          refine lv_goto (tgt := 16) hx hb dk_X2_mean_44 (by decide) ?_
          exact ih (k + 1) (by omega) (v + g k) (by rw [ks_sm_1 (g := g) (n := n) (k := k) (by omega), hv]) H locs L ls (lv_sub hl [0, 1, 2, 3] rfl)
    exact loop n 0 (by omega) 0 (by rw [ks_sm_0]) _ _ L ls (lv_sub hl [0, 1, 2, 3] rfl)
  · skip
    have tc2 : ¬ (1 : Int32).toInt ≤ ((nI (ks_hm n)) : Int32).toInt := fun h => c2 (Int32.le_iff_toInt_le.mpr h)
    exfalso
    omega
set_option maxHeartbeats 4000000 in
theorem kx_X2_bounded {l : Launch} (hl9 : l.stackTraces = false) (D : va_G) {tys : List (ClassId × FieldType)} {w : va_W} {sz : Nat} (hD0 : va_D (va_A w sz) w) {b b2 q q2 n : Nat} {ix lo : Int32} {cI : ClassId} {g : Nat → Int32} {a1 : Int32} (hti : tys[0]? = some (cI, .int)) (hf : w[q]? = some (b, .inr (8, [.ref b2, .int (nI n), .int ix, .int lo]))) (hg : w[q2]? = some (b2, .inl (cI, 20, .inl g))) (hn : n ≤ 20) : kx_C l yX2_bounded cX2_bounded 3 (some .int) 1 0 0 0 [.ref b, .int a1] D tys w sz (fun res w1 => w1 = w ∧ res = some (.int (ks_bd lo a1))) (fun _ => False) := by
  refine vx_ofW (cc := cX2_bounded) (maxL := 3) (ret := (some .int)) (by decide +kernel) rfl ?_
  intro p e s m args below meth c s₁ B9 hml hne hv
  obtain ⟨rfl, hsz, hP, hK, hT⟩ := hv
  subst hsz
  have hx := B9.exec
  have hb := B9.bytes
  have hr := B9.returns
  have hlocks := B9.notSynchronized
  have hts0 := atoms_spec (ws := Cond.code yX2_bounded cX2_bounded 3 (some .int) :: en_cw) B9.pre
  have hts : ∀ z ∈ en_cw, z.before _ s = true := fun z hz => hts0 z (List.mem_cons_of_mem _ hz)
  have hown : s.vm.findClass RX2 = some m.cls := findClass_of_methodNamed B9.named
  have G : kx_G p s m ([.ref b, .int a1] : List Value).toArray c cX2_bounded RX2 D tys (va_A w s.heap.size) := ⟨hx, hb, hts, hown, hK, hT, fun q h => Or.inr h⟩
  have L : kx_H D (va_A w s.heap.size) s w s.heap [] := ⟨hP, ⟨hD0.1, fun j z hz => Or.inl ⟨j, z.2, hz⟩⟩, va_S.rf⟩
  have hl := lv_entry ([.ref b, .int a1] : List Value) (n := 3) (Nat.le_of_ble_eq_true rfl)
  rw [lg_entry_eq]
  generalize (lg_sl ([.ref b, .int a1] : List Value) ++ List.replicate (3 - (lg_sl ([.ref b, .int a1] : List Value)).length) Slot.unset).toArray = ls at hl ⊢
  have hl : lv_has ls 3 [(0, .ref b), (1, .int a1)] := hl
  refine lv_iload_n hx hb dk_X2_bounded_0 rfl (lv_at hl 1 rfl) ?_
  refine lv_aload_n hx hb dk_X2_bounded_1 rfl (lv_at hl 0 rfl) ?_
  refine kx_get (v := .int lo) G L (en_FTX2_ok (30, 8, 3) (by decide)) hf rfl dk_X2_bounded_2 ?_
  refine lv_isub hx hb dk_X2_bounded_5 ?_
  refine lv_istore_n (lv' := [(2, .int (a1 - lo)), (0, .ref b), (1, .int a1)]) hx hb dk_X2_bounded_6 rfl hl (by decide) rfl (fun ls hl => ?_)
  refine lv_iload_n hx hb dk_X2_bounded_7 rfl (lv_at hl 0 rfl) ?_
  refine lv_bipush (v := 30) hx hb dk_X2_bounded_8 (by decide) ?_
  have k2 : (30 : Int32).toInt = 30 := by decide
  refine lv_icmp_gt (tgt := 15) hx hb dk_X2_bounded_10 (by decide) (fun c1 => ?_) (fun c1 => ?_)
  · skip
    have tc1 : (30 : Int32).toInt < ((a1 - lo) : Int32).toInt := Int32.lt_iff_toInt_lt.mp c1
    refine lv_aload_n hx hb dk_X2_bounded_15 rfl (lv_at hl 1 rfl) ?_
    refine kx_get (v := .int lo) G L (en_FTX2_ok (30, 8, 3) (by decide)) hf rfl dk_X2_bounded_16 ?_
    refine lv_bipush (v := 50) hx hb dk_X2_bounded_19 (by decide) ?_
    refine lv_bipush (v := 30) hx hb dk_X2_bounded_21 (by decide) ?_
    refine lv_iload_n hx hb dk_X2_bounded_23 rfl (lv_at hl 0 rfl) ?_
    refine lv_bipush (v := 30) hx hb dk_X2_bounded_24 (by decide) ?_
    refine lv_isub hx hb dk_X2_bounded_26 ?_
    refine lv_iconst (v := 2) hx hb dk_X2_bounded_27 (by decide) ?_
    refine lv_idiv hx hb dk_X2_bounded_28 (by decide) ?_
    refine lv_iadd hx hb dk_X2_bounded_29 ?_
    refine kx_cS (As := [.int 50, .int (30 + (((a1 - lo) - 30) / 2))]) (rest := [.int lo]) G L (kx_J9_min_7cf53 hl9 D (kx_D1 L)) gc_RX2_43s rfl (hml.trans hl.1.symm) ⟨Nat.le_of_ble_eq_true rfl, Nat.le_of_ble_eq_true rfl⟩ ⟨Nat.le_of_ble_eq_true rfl, Nat.le_of_ble_eq_true rfl⟩ (Nat.le_of_ble_eq_true rfl) dk_X2_bounded_30 (fun _ _ _ _ _ h9 => h9.elim) (fun res w3 H locs hrv hq3 L => ?_)
    obtain ⟨ew3, hq3⟩ := hq3
    have ew3 := ew3.symm
    subst ew3
    obtain rfl := hq3
    refine lv_iadd hx hb dk_X2_bounded_33 ?_
    exact vx_ret (W.widen (Nat.le_of_ble_eq_true rfl) (Nat.le_of_ble_eq_true rfl) (W.iret (v := (lo + (ks_mi 50 (30 + (a1 - lo - 30) / 2)))) hx hb hr (fun T9 hT9 _ => ⟨⟨(lo + (ks_mi 50 (30 + (a1 - lo - 30) / 2))), w, rfl, ⟨rfl, by rw [ks_bd_1 c1]⟩, by rw [hT9]; exact L.1, L.2.1⟩, L.2.2.F hT9⟩) L.2.2.2.2 dk_X2_bounded_34 hlocks))
  · skip
    have tc1 : ¬ (30 : Int32).toInt < ((a1 - lo) : Int32).toInt := fun h => c1 (Int32.lt_iff_toInt_lt.mpr h)
    refine lv_iload_n hx hb dk_X2_bounded_13 rfl (lv_at hl 2 rfl) ?_
    exact vx_ret (W.widen (Nat.le_of_ble_eq_true rfl) (Nat.le_of_ble_eq_true rfl) (W.iret (v := a1) hx hb hr (fun T9 hT9 _ => ⟨⟨a1, w, rfl, ⟨rfl, by rw [ks_bd_0 c1]⟩, by rw [hT9]; exact L.1, L.2.1⟩, L.2.2.F hT9⟩) L.2.2.2.2 dk_X2_bounded_14 hlocks))
set_option maxHeartbeats 4000000 in
theorem kx_X2_isLawful {l : Launch} (hl9 : l.stackTraces = false) (D : va_G) {tys : List (ClassId × FieldType)} {w : va_W} {sz : Nat} (hD0 : va_D (va_A w sz) w) {b b2 q q2 n : Nat} {ix lo : Int32} {cI : ClassId} {g : Nat → Int32} (hti : tys[0]? = some (cI, .int)) (hf : w[q]? = some (b, .inr (8, [.ref b2, .int (nI n), .int ix, .int lo]))) (hg : w[q2]? = some (b2, .inl (cI, 20, .inl g))) (hn : n ≤ 20) (hok : ks_ok g n ix lo) : kx_C l yX2_isLawful cX2_isLawful 1 (some .boolean) 3 0 0 0 [.ref b] D tys w sz (fun res w1 => w1 = w ∧ res = some (.int 1)) (fun _ => False) := by
  refine vx_ofW (cc := cX2_isLawful) (maxL := 1) (ret := (some .boolean)) (by decide +kernel) rfl ?_
  intro p e s m args below meth c s₁ B9 hml hne hv
  obtain ⟨rfl, hsz, hP, hK, hT⟩ := hv
  subst hsz
  have hx := B9.exec
  have hb := B9.bytes
  have hr := B9.returns
  have hlocks := B9.notSynchronized
  have hts0 := atoms_spec (ws := Cond.code yX2_isLawful cX2_isLawful 1 (some .boolean) :: en_cw) B9.pre
  have hts : ∀ z ∈ en_cw, z.before _ s = true := fun z hz => hts0 z (List.mem_cons_of_mem _ hz)
  have hown : s.vm.findClass RX2 = some m.cls := findClass_of_methodNamed B9.named
  have G : kx_G p s m ([.ref b] : List Value).toArray c cX2_isLawful RX2 D tys (va_A w s.heap.size) := ⟨hx, hb, hts, hown, hK, hT, fun q h => Or.inr h⟩
  have L : kx_H D (va_A w s.heap.size) s w s.heap [] := ⟨hP, ⟨hD0.1, fun j z hz => Or.inl ⟨j, z.2, hz⟩⟩, va_S.rf⟩
  have hl := lv_entry ([.ref b] : List Value) (n := 1) (Nat.le_of_ble_eq_true rfl)
  rw [lg_entry_eq]
  generalize (lg_sl ([.ref b] : List Value) ++ List.replicate (1 - (lg_sl ([.ref b] : List Value)).length) Slot.unset).toArray = ls at hl ⊢
  have hl : lv_has ls 1 [(0, .ref b)] := hl
  refine lv_aload_n hx hb dk_X2_isLawful_0 rfl (lv_at hl 0 rfl) ?_
  refine kx_get (v := .int (nI n)) G L (en_FTX2_ok (15, 8, 1) (by decide)) hf rfl dk_X2_isLawful_1 ?_
  have k2 : (nI n).toInt = (((n) : Nat) : Int) := kx_nI (by omega)
  have k3 : (0 : Int32).toInt = 0 := by decide
  refine lv_if_eq (tgt := 33) hx hb dk_X2_isLawful_4 (by decide) (fun c1 => ?_) (fun c1 => ?_)
  · skip
    have tc1 : ((nI n) : Int32).toInt = (0 : Int32).toInt := by rw [c1]
    refine lv_iconst (v := 1) hx hb dk_X2_isLawful_33 (by decide) ?_
    refine lv_goto (tgt := 38) hx hb dk_X2_isLawful_34 (by decide) ?_
    exact vx_ret (W.widen (Nat.le_of_ble_eq_true rfl) (Nat.le_of_ble_eq_true rfl) (W.zret (v := 1) (ty := .boolean) hx hb hr (by decide) (fun T9 hT9 _ => ⟨⟨1, w, rfl, ⟨rfl, rfl⟩, by rw [hT9]; exact L.1, L.2.1⟩, L.2.2.F hT9⟩) L.2.2.2.2 dk_X2_isLawful_38 hlocks))
  · skip
    have tc1 : ¬ ((nI n) : Int32).toInt = (0 : Int32).toInt := fun h => c1 (Int32.toInt_inj.mp h)
    obtain ⟨o1, o2, o3⟩ := hok.resolve_left (by omega)
    refine lv_aload_n hx hb dk_X2_isLawful_7 rfl (lv_at hl 0 rfl) ?_
    refine kx_get (v := .int ix) G L (en_FTX2_ok (27, 8, 2) (by decide)) hf rfl dk_X2_isLawful_8 ?_
    refine lv_aload_n hx hb dk_X2_isLawful_11 rfl (lv_at hl 0 rfl) ?_
    refine lv_aload_n hx hb dk_X2_isLawful_12 rfl (lv_at hl 0 rfl) ?_
    refine kx_cV (As := []) (rest := [.ref b, .int ix]) (q := q) (ci := 8) G L (kx_X2_mean hl9 D (kx_D1 L) hti hf hg hn) gc_RX2_23v hf rfl rfl rfl (hml.trans hl.1.symm) ⟨Nat.le_of_ble_eq_true rfl, Nat.le_of_ble_eq_true rfl⟩ ⟨Nat.le_of_ble_eq_true rfl, Nat.le_of_ble_eq_true rfl⟩ (Nat.le_of_ble_eq_true rfl) dk_X2_isLawful_13 (fun _ _ _ _ _ h9 => h9.elim) (fun res w4 H locs hrv hq4 L => ?_)
    obtain ⟨ew4, hq4⟩ := hq4
    have ew4 := ew4.symm
    subst ew4
    obtain rfl := hq4
    refine kx_cV (As := [.int (ks_mn g n)]) (rest := [.int ix]) (q := q) (ci := 8) G L (kx_X2_bounded hl9 D (kx_D1 L) hti hf hg hn (a1 := ks_mn g n)) gc_RX2_40v hf rfl rfl rfl (hml.trans hl.1.symm) ⟨Nat.le_of_ble_eq_true rfl, Nat.le_of_ble_eq_true rfl⟩ ⟨Nat.le_of_ble_eq_true rfl, Nat.le_of_ble_eq_true rfl⟩ (Nat.le_of_ble_eq_true rfl) dk_X2_isLawful_16 (fun _ _ _ _ _ h9 => h9.elim) (fun res w5 H locs hrv hq5 L => ?_)
    obtain ⟨ew5, hq5⟩ := hq5
    have ew5 := ew5.symm
    subst ew5
    obtain rfl := hq5
    refine lv_icmp_gt (tgt := 37) hx hb dk_X2_isLawful_19 (by decide) (fun c6 => ?_) (fun c6 => ?_)
    · skip
      have tc6 : ((ks_bd lo (ks_mn g n)) : Int32).toInt < (ix : Int32).toInt := Int32.lt_iff_toInt_lt.mp c6
      exfalso
      omega
    · skip
      have tc6 : ¬ ((ks_bd lo (ks_mn g n)) : Int32).toInt < (ix : Int32).toInt := fun h => c6 (Int32.lt_iff_toInt_lt.mpr h)
      refine lv_aload_n hx hb dk_X2_isLawful_22 rfl (lv_at hl 0 rfl) ?_
      refine kx_get (v := .int ix) G L (en_FTX2_ok (27, 8, 2) (by decide)) hf rfl dk_X2_isLawful_23 ?_
      refine lv_aload_n hx hb dk_X2_isLawful_26 rfl (lv_at hl 0 rfl) ?_
      refine kx_get (v := .int lo) G L (en_FTX2_ok (30, 8, 3) (by decide)) hf rfl dk_X2_isLawful_27 ?_
      refine lv_icmp_lt (tgt := 37) hx hb dk_X2_isLawful_30 (by decide) (fun c7 => ?_) (fun c7 => ?_)
      · skip
        have tc7 : (ix : Int32).toInt < (lo : Int32).toInt := Int32.lt_iff_toInt_lt.mp c7
        exfalso
        omega
      · skip
        have tc7 : ¬ (ix : Int32).toInt < (lo : Int32).toInt := fun h => c7 (Int32.lt_iff_toInt_lt.mpr h)
        refine lv_iconst (v := 1) hx hb dk_X2_isLawful_33 (by decide) ?_
        refine lv_goto (tgt := 38) hx hb dk_X2_isLawful_34 (by decide) ?_
        exact vx_ret (W.widen (Nat.le_of_ble_eq_true rfl) (Nat.le_of_ble_eq_true rfl) (W.zret (v := 1) (ty := .boolean) hx hb hr (by decide) (fun T9 hT9 _ => ⟨⟨1, w, rfl, ⟨rfl, rfl⟩, by rw [hT9]; exact L.1, L.2.1⟩, L.2.2.F hT9⟩) L.2.2.2.2 dk_X2_isLawful_38 hlocks))
set_option maxHeartbeats 4000000 in
theorem kx_X2_offFor {l : Launch} (hl9 : l.stackTraces = false) (D : va_G) {tys : List (ClassId × FieldType)} {w : va_W} {sz : Nat} (hD0 : va_D (va_A w sz) w) {b b2 q q2 n : Nat} {ix lo : Int32} {cI : ClassId} {g : Nat → Int32} {a1 : Int32} (hti : tys[0]? = some (cI, .int)) (hf : w[q]? = some (b, .inr (8, [.ref b2, .int (nI n), .int ix, .int lo]))) (hg : w[q2]? = some (b2, .inl (cI, 20, .inl g))) (hn : n ≤ 20) : kx_C l yX2_offFor cX2_offFor 2 (some .int) 0 0 0 0 [.ref b, .int a1] D tys w sz (fun res w1 => w1 = w ∧ ∃ v : Int32, res = some (.int v)) (fun _ => False) := by
  refine vx_ofW (cc := cX2_offFor) (maxL := 2) (ret := (some .int)) (by decide +kernel) rfl ?_
  intro p e s m args below meth c s₁ B9 hml hne hv
  obtain ⟨rfl, hsz, hP, hK, hT⟩ := hv
  subst hsz
  have hx := B9.exec
  have hb := B9.bytes
  have hr := B9.returns
  have hlocks := B9.notSynchronized
  have hts0 := atoms_spec (ws := Cond.code yX2_offFor cX2_offFor 2 (some .int) :: en_cw) B9.pre
  have hts : ∀ z ∈ en_cw, z.before _ s = true := fun z hz => hts0 z (List.mem_cons_of_mem _ hz)
  have hown : s.vm.findClass RX2 = some m.cls := findClass_of_methodNamed B9.named
  have G : kx_G p s m ([.ref b, .int a1] : List Value).toArray c cX2_offFor RX2 D tys (va_A w s.heap.size) := ⟨hx, hb, hts, hown, hK, hT, fun q h => Or.inr h⟩
  have L : kx_H D (va_A w s.heap.size) s w s.heap [] := ⟨hP, ⟨hD0.1, fun j z hz => Or.inl ⟨j, z.2, hz⟩⟩, va_S.rf⟩
  have hl := lv_entry ([.ref b, .int a1] : List Value) (n := 2) (Nat.le_of_ble_eq_true rfl)
  rw [lg_entry_eq]
  generalize (lg_sl ([.ref b, .int a1] : List Value) ++ List.replicate (2 - (lg_sl ([.ref b, .int a1] : List Value)).length) Slot.unset).toArray = ls at hl ⊢
  have hl : lv_has ls 2 [(0, .ref b), (1, .int a1)] := hl
  refine lv_iload_n hx hb dk_X2_offFor_0 rfl (lv_at hl 1 rfl) ?_
  refine lv_aload_n hx hb dk_X2_offFor_1 rfl (lv_at hl 0 rfl) ?_
  refine kx_get (v := .int ix) G L (en_FTX2_ok (27, 8, 2) (by decide)) hf rfl dk_X2_offFor_2 ?_
  refine lv_bipush (v := 100) hx hb dk_X2_offFor_5 (by decide) ?_
  refine lv_isub hx hb dk_X2_offFor_7 ?_
  refine lv_icmp_gt (tgt := 14) hx hb dk_X2_offFor_8 (by decide) (fun c1 => ?_) (fun c1 => ?_)
  · skip
    have tc1 : ((ix - 100) : Int32).toInt < (a1 : Int32).toInt := Int32.lt_iff_toInt_lt.mp c1
    refine lv_iload_n hx hb dk_X2_offFor_14 rfl (lv_at hl 1 rfl) ?_
    refine lv_aload_n hx hb dk_X2_offFor_15 rfl (lv_at hl 0 rfl) ?_
    refine kx_get (v := .int ix) G L (en_FTX2_ok (27, 8, 2) (by decide)) hf rfl dk_X2_offFor_16 ?_
    refine lv_bipush (v := 70) hx hb dk_X2_offFor_19 (by decide) ?_
    refine lv_isub hx hb dk_X2_offFor_21 ?_
    refine lv_icmp_gt (tgt := 30) hx hb dk_X2_offFor_22 (by decide) (fun c2 => ?_) (fun c2 => ?_)
    · skip
      have tc2 : ((ix - 70) : Int32).toInt < (a1 : Int32).toInt := Int32.lt_iff_toInt_lt.mp c2
      refine lv_iconst (v := 0) hx hb dk_X2_offFor_30 (by decide) ?_
      exact vx_ret (W.widen (Nat.le_of_ble_eq_true rfl) (Nat.le_of_ble_eq_true rfl) (W.iret (v := 0) hx hb hr (fun T9 hT9 _ => ⟨⟨0, w, rfl, ⟨rfl, _, rfl⟩, by rw [hT9]; exact L.1, L.2.1⟩, L.2.2.F hT9⟩) L.2.2.2.2 dk_X2_offFor_31 hlocks))
    · skip
      have tc2 : ¬ ((ix - 70) : Int32).toInt < (a1 : Int32).toInt := fun h => c2 (Int32.lt_iff_toInt_lt.mpr h)
      refine lv_bipush (v := 10) hx hb dk_X2_offFor_25 (by decide) ?_
      refine lv_goto (tgt := 31) hx hb dk_X2_offFor_27 (by decide) ?_
      exact vx_ret (W.widen (Nat.le_of_ble_eq_true rfl) (Nat.le_of_ble_eq_true rfl) (W.iret (v := 10) hx hb hr (fun T9 hT9 _ => ⟨⟨10, w, rfl, ⟨rfl, _, rfl⟩, by rw [hT9]; exact L.1, L.2.1⟩, L.2.2.F hT9⟩) L.2.2.2.2 dk_X2_offFor_31 hlocks))
  · skip
    have tc1 : ¬ ((ix - 100) : Int32).toInt < (a1 : Int32).toInt := fun h => c1 (Int32.lt_iff_toInt_lt.mpr h)
    refine lv_bipush (v := 20) hx hb dk_X2_offFor_11 (by decide) ?_
    exact vx_ret (W.widen (Nat.le_of_ble_eq_true rfl) (Nat.le_of_ble_eq_true rfl) (W.iret (v := 20) hx hb hr (fun T9 hT9 _ => ⟨⟨20, w, rfl, ⟨rfl, _, rfl⟩, by rw [hT9]; exact L.1, L.2.1⟩, L.2.2.F hT9⟩) L.2.2.2.2 dk_X2_offFor_13 hlocks))
set_option maxHeartbeats 4000000 in
theorem kx_X2_keep {l : Launch} (hl9 : l.stackTraces = false) (D : va_G) {tys : List (ClassId × FieldType)} {w : va_W} {sz : Nat} (hD0 : va_D (va_A w sz) w) {b b2 q q2 n : Nat} {ix lo : Int32} {cI : ClassId} {g : Nat → Int32} {a1 : Int32} (hti : tys[0]? = some (cI, .int)) (hf : w[q]? = some (b, .inr (8, [.ref b2, .int (nI n), .int ix, .int lo]))) (hg : w[q2]? = some (b2, .inl (cI, 20, .inl g))) (hn : n ≤ 20) : kx_C l yX2_keep cX2_keep 3 none 0 0 0 2 [.ref b, .int a1] D tys w sz (fun res w1 => ∃ (mm : Nat) (g1 : Nat → Int32), mm < 20 ∧ (n = 0 → mm = 0) ∧ w1[q]? = some (b, .inr (8, [.ref b2, .int (nI (mm + 1)), .int ix, .int lo])) ∧ w1[q2]? = some (b2, .inl (cI, 20, .inl g1)) ∧ g1 mm = a1 ∧ w1.length = w.length ∧ ∀ j, j ≠ q → j ≠ q2 → w1[j]? = w[j]?) (fun _ => False) := by
  refine vx_ofW (cc := cX2_keep) (maxL := 3) (ret := none) (by decide +kernel) rfl ?_
  intro p e s m args below meth c s₁ B9 hml hne hv
  obtain ⟨rfl, hsz, hP, hK, hT⟩ := hv
  subst hsz
  have hx := B9.exec
  have hb := B9.bytes
  have hr := B9.returns
  have hlocks := B9.notSynchronized
  have hts0 := atoms_spec (ws := Cond.code yX2_keep cX2_keep 3 none :: en_cw) B9.pre
  have hts : ∀ z ∈ en_cw, z.before _ s = true := fun z hz => hts0 z (List.mem_cons_of_mem _ hz)
  have hown : s.vm.findClass RX2 = some m.cls := findClass_of_methodNamed B9.named
  have G : kx_G p s m ([.ref b, .int a1] : List Value).toArray c cX2_keep RX2 D tys (va_A w s.heap.size) := ⟨hx, hb, hts, hown, hK, hT, fun q h => Or.inr h⟩
  have L : kx_H D (va_A w s.heap.size) s w s.heap [] := ⟨hP, ⟨hD0.1, fun j z hz => Or.inl ⟨j, z.2, hz⟩⟩, va_S.rf⟩
  have hl := lv_entry ([.ref b, .int a1] : List Value) (n := 3) (Nat.le_of_ble_eq_true rfl)
  rw [lg_entry_eq]
  generalize (lg_sl ([.ref b, .int a1] : List Value) ++ List.replicate (3 - (lg_sl ([.ref b, .int a1] : List Value)).length) Slot.unset).toArray = ls at hl ⊢
  have hl : lv_has ls 3 [(0, .ref b), (1, .int a1)] := hl
  have hqq : q ≠ q2 := fun e => by subst e; exact absurd (Prod.mk.inj (Option.some.inj (hg.symm.trans hf))).2 (by simp)
  have S43 : ∀ (mm : Nat), mm < 20 → (n = 0 → mm = 0) → ∀ (wk : va_W) (H : Heap) (locs : List Loc) (g1 : Nat → Int32), wk[q]? = some (b, .inr (8, [.ref b2, .int (nI mm), .int ix, .int lo])) → wk[q2]? = some (b2, .inl (cI, 20, .inl g1)) → wk.length = w.length → (∀ j, j ≠ q → j ≠ q2 → wk[j]? = w[j]?) → kx_H D (va_A w s.heap.size) s wk H locs → ∀ (ls : Array Slot), lv_has ls 3 [(0, .ref b), (1, .int a1)] → W p l e (headSpec (Cond.code yX2_keep cX2_keep 3 none :: en_cw) (en_rm 0 (0, 0))).room s m ([.ref b, .int a1] : List Value).toArray below meth c H locs (0) (0) (vx_MQ below (kx_Q 2 D (fun res w1 => ∃ (mm : Nat) (g1 : Nat → Int32), mm < 20 ∧ (n = 0 → mm = 0) ∧ w1[q]? = some (b, .inr (8, [.ref b2, .int (nI (mm + 1)), .int ix, .int lo])) ∧ w1[q2]? = some (b2, .inl (cI, 20, .inl g1)) ∧ g1 mm = a1 ∧ w1.length = w.length ∧ ∀ j, j ≠ q → j ≠ q2 → w1[j]? = w[j]?) (va_A w s.heap.size)) (kx_XC D w (fun _ => False) (va_A w s.heap.size)) ([.ref b, .int a1] : List Value).toArray s 0 0 (va_A w s.heap.size)) (F0 m 43 ls []) := by
    intro mm hm hm0 wk H locs g1 f1 f2 hlen hoth L ls hl
    refine lv_aload_n hx hb dk_X2_keep_43 rfl (lv_at hl 0 rfl) ?_
    refine kx_get (v := .int (nI mm)) G L (en_FTX2_ok (15, 8, 1) (by decide)) f1 rfl dk_X2_keep_44 ?_
    have k2 : (nI mm).toInt = (((mm) : Nat) : Int) := kx_nI (by omega)
    have k3 : (0 : Int32).toInt = 0 := by decide
    refine lv_if_lt (tgt := 79) hx hb dk_X2_keep_47 (by decide) (fun c1 => ?_) (fun c1 => ?_)
    · skip
      have tc1 : ((nI mm) : Int32).toInt < (0 : Int32).toInt := Int32.lt_iff_toInt_lt.mp c1
      exfalso
      omega
    · skip
      have tc1 : ¬ ((nI mm) : Int32).toInt < (0 : Int32).toInt := fun h => c1 (Int32.lt_iff_toInt_lt.mpr h)
      refine lv_aload_n hx hb dk_X2_keep_50 rfl (lv_at hl 0 rfl) ?_
      refine kx_get (v := .int (nI mm)) G L (en_FTX2_ok (15, 8, 1) (by decide)) f1 rfl dk_X2_keep_51 ?_
      refine lv_bipush (v := 20) hx hb dk_X2_keep_54 (by decide) ?_
      have k5 : (nI mm).toInt = (((mm) : Nat) : Int) := kx_nI (by omega)
      have k6 : (20 : Int32).toInt = 20 := by decide
      refine lv_icmp_ge (tgt := 79) hx hb dk_X2_keep_56 (by decide) (fun c4 => ?_) (fun c4 => ?_)
      · skip
        have tc4 : (20 : Int32).toInt ≤ ((nI mm) : Int32).toInt := Int32.le_iff_toInt_le.mp c4
        exfalso
        omega
      · skip
        have tc4 : ¬ (20 : Int32).toInt ≤ ((nI mm) : Int32).toInt := fun h => c4 (Int32.le_iff_toInt_le.mpr h)
        refine lv_aload_n hx hb dk_X2_keep_59 rfl (lv_at hl 0 rfl) ?_
        refine kx_get (v := .ref b2) G L (en_FTX2_ok (9, 8, 0) (by decide)) f1 rfl dk_X2_keep_60 ?_
        refine lv_aload_n hx hb dk_X2_keep_63 rfl (lv_at hl 0 rfl) ?_
        refine kx_get (v := .int (nI mm)) G L (en_FTX2_ok (15, 8, 1) (by decide)) f1 rfl dk_X2_keep_64 ?_
        refine lv_iload_n hx hb dk_X2_keep_67 rfl (lv_at hl 1 rfl) ?_
        refine kx_iast (k := mm) G L f2 hti hm (by decide) dk_X2_keep_68 (fun w7 H locs e7 n7 o7 L => ?_)
        have r7 := (o7 q hqq).trans f1
        refine lv_aload_n hx hb dk_X2_keep_69 rfl (lv_at hl 0 rfl) ?_
        refine lv_dup hx hb dk_X2_keep_70 rfl ?_
        refine kx_get (v := .int (nI mm)) G L (en_FTX2_ok (15, 8, 1) (by decide)) r7 rfl dk_X2_keep_71 ?_
        refine lv_iconst (v := 1) hx hb dk_X2_keep_74 (by decide) ?_
        refine lv_iadd hx hb dk_X2_keep_75 ?_
        refine lv_topi (fun y8 ey8 => ?_)
        obtain rfl : y8 = (nI (mm + 1)) := ey8.trans (kx_inc (by omega))
        refine kx_put (x := (nI (mm + 1))) G L (en_PTX2_ok (15, 8, 1, 0) (by decide)) r7 (Nat.le_of_ble_eq_true rfl) (en_lo _) (en_hi _) dk_X2_keep_76 (fun w9 H locs e9 n9 o9 L => ?_)
        exact vx_ret (W.widen (Nat.le_of_ble_eq_true rfl) (Nat.le_of_ble_eq_true rfl) (W.vret hx hb hr (fun T9 hT9 _ => ⟨⟨w9, rfl, ⟨mm, _, hm, hm0, e9, (o9 q2 hqq.symm).trans e7, (by unfold upd; rw [if_pos rfl]), (n9.trans n7).trans hlen, fun j h1 h2 => ((o9 j h1).trans (o7 j h2)).trans (hoth j h1 h2)⟩, by rw [hT9]; exact L.1, L.2.1⟩, L.2.2.F hT9⟩) L.2.2.2.2 dk_X2_keep_79 hlocks))
  refine lv_aload_n hx hb dk_X2_keep_0 rfl (lv_at hl 0 rfl) ?_
  refine kx_get (v := .int (nI n)) G L (en_FTX2_ok (15, 8, 1) (by decide)) hf rfl dk_X2_keep_1 ?_
  refine lv_bipush (v := 20) hx hb dk_X2_keep_4 (by decide) ?_
  have k11 : (nI n).toInt = (((n) : Nat) : Int) := kx_nI (by omega)
  have k12 : (20 : Int32).toInt = 20 := by decide
  refine lv_icmp_lt (tgt := 43) hx hb dk_X2_keep_6 (by decide) (fun c10 => ?_) (fun c10 => ?_)
  · skip
    have tc10 : ((nI n) : Int32).toInt < (20 : Int32).toInt := Int32.lt_iff_toInt_lt.mp c10
    exact S43 n (by omega) (fun h => h) w _ _ g hf hg rfl (fun _ _ _ => rfl) L ls (lv_sub hl [0, 1] rfl)
  · skip
    have tc10 : ¬ ((nI n) : Int32).toInt < (20 : Int32).toInt := fun h => c10 (Int32.lt_iff_toInt_lt.mpr h)
    have e20 : n = 20 := by omega
    refine lv_iconst (v := 1) hx hb dk_X2_keep_9 (by decide) ?_
    refine lv_istore_n (lv' := [(2, .int 1), (0, .ref b), (1, .int a1)]) hx hb dk_X2_keep_10 rfl hl (by decide) rfl (fun ls hl => ?_)
    have loop : ∀ (d k : Nat), k + d = 20 → 1 ≤ k → ∀ (wk : va_W) (H : Heap) (locs : List Loc) (g1 : Nat → Int32), wk[q]? = some (b, .inr (8, [.ref b2, .int (nI n), .int ix, .int lo])) → wk[q2]? = some (b2, .inl (cI, 20, .inl g1)) → wk.length = w.length → (∀ j, j ≠ q → j ≠ q2 → wk[j]? = w[j]?) → kx_H D (va_A w s.heap.size) s wk H locs → ∀ (ls : Array Slot), lv_has ls 3 [(2, .int (nI k)), (0, .ref b), (1, .int a1)] → W p l e (headSpec (Cond.code yX2_keep cX2_keep 3 none :: en_cw) (en_rm 0 (0, 0))).room s m ([.ref b, .int a1] : List Value).toArray below meth c H locs (0) (0) (vx_MQ below (kx_Q 2 D (fun res w1 => ∃ (mm : Nat) (g1 : Nat → Int32), mm < 20 ∧ (n = 0 → mm = 0) ∧ w1[q]? = some (b, .inr (8, [.ref b2, .int (nI (mm + 1)), .int ix, .int lo])) ∧ w1[q2]? = some (b2, .inl (cI, 20, .inl g1)) ∧ g1 mm = a1 ∧ w1.length = w.length ∧ ∀ j, j ≠ q → j ≠ q2 → w1[j]? = w[j]?) (va_A w s.heap.size)) (kx_XC D w (fun _ => False) (va_A w s.heap.size)) ([.ref b, .int a1] : List Value).toArray s 0 0 (va_A w s.heap.size)) (F0 m 11 ls []) := by
      intro d
      induction d with
      | zero =>
        intro k hk hk1 wk H locs g1 f1 f2 hlen hoth L ls hl
        refine lv_iload_n hx hb dk_X2_keep_11 rfl (lv_at hl 0 rfl) ?_
        refine lv_bipush (v := 20) hx hb dk_X2_keep_12 (by decide) ?_
        have e9 : k = 20 := by omega
        subst e9
        refine lv_icmp_ge (tgt := 37) hx hb dk_X2_keep_14 (by decide) (fun _ => ?_) (fun c9 => absurd (by decide) c9)
        refine lv_aload_n hx hb dk_X2_keep_37 rfl (lv_at hl 1 rfl) ?_
        refine lv_bipush (v := 19) hx hb dk_X2_keep_38 (by decide) ?_
        refine kx_put (x := 19) G L (en_PTX2_ok (15, 8, 1, 0) (by decide)) f1 (Nat.le_of_ble_eq_true rfl) (en_lo _) (en_hi _) dk_X2_keep_40 (fun w13 H locs e13 n13 o13 L => ?_)
        exact S43 19 (by decide) (fun h => absurd h (by omega)) _ _ _ g1 e13 ((o13 q2 hqq.symm).trans f2) (n13.trans hlen) (fun j h1 h2 => (o13 j h1).trans (hoth j h1 h2)) L ls (lv_sub hl [1, 2] rfl)
      | succ d ih =>
        intro k hk hk1 wk H locs g1 f1 f2 hlen hoth L ls hl
        refine lv_iload_n hx hb dk_X2_keep_11 rfl (lv_at hl 0 rfl) ?_
        refine lv_bipush (v := 20) hx hb dk_X2_keep_12 (by decide) ?_
        refine lv_icmp_ge (tgt := 37) hx hb dk_X2_keep_14 (by decide) (fun c9 => absurd c9 (nI_ge (a := k) (b := 20) (by omega) (by omega))) (fun _ => ?_)
        refine lv_aload_n hx hb dk_X2_keep_17 rfl (lv_at hl 1 rfl) ?_
        refine kx_get (v := .ref b2) G L (en_FTX2_ok (9, 8, 0) (by decide)) f1 rfl dk_X2_keep_18 ?_
        refine lv_iload_n hx hb dk_X2_keep_21 rfl (lv_at hl 0 rfl) ?_
        refine lv_iconst (v := 1) hx hb dk_X2_keep_22 (by decide) ?_
        refine lv_isub hx hb dk_X2_keep_23 ?_
        refine lv_topi (fun y14 ey14 => ?_)
        obtain rfl : y14 = (nI (k - 1)) := ey14.trans (ks_subn (b := 1) hk1 (by omega))
        refine lv_aload_n hx hb dk_X2_keep_24 rfl (lv_at hl 1 rfl) ?_
        refine kx_get (v := .ref b2) G L (en_FTX2_ok (9, 8, 0) (by decide)) f1 rfl dk_X2_keep_25 ?_
        refine lv_iload_n hx hb dk_X2_keep_28 rfl (lv_at hl 0 rfl) ?_
        refine kx_iald G L f2 hti (show k < 20 by omega) (by decide) dk_X2_keep_29 ?_
        refine kx_iast (k := k - 1) G L f2 hti (by omega) (by decide) dk_X2_keep_30 (fun w15 H locs e15 n15 o15 L => ?_)
        refine lv_iinc (v := (nI (k + 1))) (lv' := [(2, .int (nI (k + 1))), (0, .ref b), (1, .int a1)]) hx hb dk_X2_keep_31 hl (k := 0) rfl (kx_inc (by omega)) (by decide) rfl (fun ls hl => ?_)
        refine lv_goto (tgt := 11) hx hb dk_X2_keep_34 (by decide) ?_
        exact ih (k + 1) (by omega) (by omega) w15 H locs _ ((o15 q hqq).trans f1) e15 (n15.trans hlen) (fun j h1 h2 => (o15 j h2).trans (hoth j h1 h2)) L ls (lv_sub hl [0, 1, 2] rfl)
    exact loop 19 1 (by omega) (by decide) w _ _ g hf hg rfl (fun _ _ _ => rfl) L ls (lv_sub hl [0, 1, 2] rfl)
set_option maxHeartbeats 4000000 in
theorem kx_X2_takeOff {l : Launch} (hl9 : l.stackTraces = false) (D : va_G) {tys : List (ClassId × FieldType)} {w : va_W} {sz : Nat} (hD0 : va_D (va_A w sz) w) {b b2 q q2 n : Nat} {ix lo : Int32} {cI : ClassId} {g : Nat → Int32} {a1 : Int32} (hti : tys[0]? = some (cI, .int)) (hf : w[q]? = some (b, .inr (8, [.ref b2, .int (nI n), .int ix, .int lo]))) (hg : w[q2]? = some (b2, .inl (cI, 20, .inl g))) (hn : n ≤ 20) : kx_C l yX2_takeOff cX2_takeOff 3 none 0 0 0 2 [.ref b, .int a1] D tys w sz (fun res w1 => ∃ g1 : Nat → Int32, w1[q2]? = some (b2, .inl (cI, 20, .inl g1)) ∧ w1.length = w.length ∧ ∀ j, j ≠ q2 → w1[j]? = w[j]?) (fun _ => False) := by
  refine vx_ofW (cc := cX2_takeOff) (maxL := 3) (ret := none) (by decide +kernel) rfl ?_
  intro p e s m args below meth c s₁ B9 hml hne hv
  obtain ⟨rfl, hsz, hP, hK, hT⟩ := hv
  subst hsz
  have hx := B9.exec
  have hb := B9.bytes
  have hr := B9.returns
  have hlocks := B9.notSynchronized
  have hts0 := atoms_spec (ws := Cond.code yX2_takeOff cX2_takeOff 3 none :: en_cw) B9.pre
  have hts : ∀ z ∈ en_cw, z.before _ s = true := fun z hz => hts0 z (List.mem_cons_of_mem _ hz)
  have hown : s.vm.findClass RX2 = some m.cls := findClass_of_methodNamed B9.named
  have G : kx_G p s m ([.ref b, .int a1] : List Value).toArray c cX2_takeOff RX2 D tys (va_A w s.heap.size) := ⟨hx, hb, hts, hown, hK, hT, fun q h => Or.inr h⟩
  have L : kx_H D (va_A w s.heap.size) s w s.heap [] := ⟨hP, ⟨hD0.1, fun j z hz => Or.inl ⟨j, z.2, hz⟩⟩, va_S.rf⟩
  have hl := lv_entry ([.ref b, .int a1] : List Value) (n := 3) (Nat.le_of_ble_eq_true rfl)
  rw [lg_entry_eq]
  generalize (lg_sl ([.ref b, .int a1] : List Value) ++ List.replicate (3 - (lg_sl ([.ref b, .int a1] : List Value)).length) Slot.unset).toArray = ls at hl ⊢
  have hl : lv_has ls 3 [(0, .ref b), (1, .int a1)] := hl
  have hqq : q ≠ q2 := fun e => by subst e; exact absurd (Prod.mk.inj (Option.some.inj (hg.symm.trans hf))).2 (by simp)
  refine lv_iconst (v := 0) hx hb dk_X2_takeOff_0 (by decide) ?_
  refine lv_istore_n (lv' := [(2, .int 0), (0, .ref b), (1, .int a1)]) hx hb dk_X2_takeOff_1 rfl hl (by decide) rfl (fun ls hl => ?_)
  have loop : ∀ (d k : Nat), k + d = n → ∀ (wk : va_W) (H : Heap) (locs : List Loc) (g1 : Nat → Int32), wk[q2]? = some (b2, .inl (cI, 20, .inl g1)) → wk.length = w.length → (∀ j, j ≠ q2 → wk[j]? = w[j]?) → kx_H D (va_A w s.heap.size) s wk H locs → ∀ (ls : Array Slot), lv_has ls 3 [(2, .int (nI k)), (0, .ref b), (1, .int a1)] → W p l e (headSpec (Cond.code yX2_takeOff cX2_takeOff 3 none :: en_cw) (en_rm 0 (0, 0))).room s m ([.ref b, .int a1] : List Value).toArray below meth c H locs (0) (0) (vx_MQ below (kx_Q 2 D (fun res w1 => ∃ g1 : Nat → Int32, w1[q2]? = some (b2, .inl (cI, 20, .inl g1)) ∧ w1.length = w.length ∧ ∀ j, j ≠ q2 → w1[j]? = w[j]?) (va_A w s.heap.size)) (kx_XC D w (fun _ => False) (va_A w s.heap.size)) ([.ref b, .int a1] : List Value).toArray s 0 0 (va_A w s.heap.size)) (F0 m 2 ls []) := by
    intro d
    induction d with
    | zero =>
      intro k hk wk H locs g1 f2 hlen hoth L ls hl
      have f1 := (hoth q hqq).trans hf
      refine lv_iload_n hx hb dk_X2_takeOff_2 rfl (lv_at hl 0 rfl) ?_
      refine lv_aload_n hx hb dk_X2_takeOff_3 rfl (lv_at hl 1 rfl) ?_
      refine kx_get (v := .int (nI n)) G L (en_FTX2_ok (15, 8, 1) (by decide)) f1 rfl dk_X2_takeOff_4 ?_
      refine lv_icmp_ge (tgt := 32) hx hb dk_X2_takeOff_7 (by decide) (fun _ => ?_) (fun c9 => absurd (nI_le (a := n) (b := k) (by omega) (by omega)) c9)
      exact vx_ret (W.widen (Nat.le_of_ble_eq_true rfl) (Nat.le_of_ble_eq_true rfl) (W.vret hx hb hr (fun T9 hT9 _ => ⟨⟨wk, rfl, ⟨g1, f2, hlen, hoth⟩, by rw [hT9]; exact L.1, L.2.1⟩, L.2.2.F hT9⟩) L.2.2.2.2 dk_X2_takeOff_32 hlocks))
    | succ d ih =>
      intro k hk wk H locs g1 f2 hlen hoth L ls hl
      have f1 := (hoth q hqq).trans hf
      refine lv_iload_n hx hb dk_X2_takeOff_2 rfl (lv_at hl 0 rfl) ?_
      refine lv_aload_n hx hb dk_X2_takeOff_3 rfl (lv_at hl 1 rfl) ?_
      refine kx_get (v := .int (nI n)) G L (en_FTX2_ok (15, 8, 1) (by decide)) f1 rfl dk_X2_takeOff_4 ?_
      refine lv_icmp_ge (tgt := 32) hx hb dk_X2_takeOff_7 (by decide) (fun c9 => absurd c9 (nI_ge (a := k) (b := n) (by omega) (by omega))) (fun _ => ?_)
      refine lv_iload_n hx hb dk_X2_takeOff_10 rfl (lv_at hl 0 rfl) ?_
      refine lv_bipush (v := 20) hx hb dk_X2_takeOff_11 (by decide) ?_
      refine lv_icmp_ge (tgt := 32) hx hb dk_X2_takeOff_13 (by decide) (fun c9 => absurd c9 (nI_ge (a := k) (b := 20) (by omega) (by omega))) (fun _ => ?_)
      refine lv_aload_n hx hb dk_X2_takeOff_16 rfl (lv_at hl 1 rfl) ?_
      refine kx_get (v := .ref b2) G L (en_FTX2_ok (9, 8, 0) (by decide)) f1 rfl dk_X2_takeOff_17 ?_
      refine lv_iload_n hx hb dk_X2_takeOff_20 rfl (lv_at hl 0 rfl) ?_
      refine lv_dup2_11 hx hb dk_X2_takeOff_21 rfl rfl ?_
      refine kx_iald G L f2 hti (show k < 20 by omega) (by decide) dk_X2_takeOff_22 ?_
      refine lv_iload_n hx hb dk_X2_takeOff_23 rfl (lv_at hl 2 rfl) ?_
      refine lv_isub hx hb dk_X2_takeOff_24 ?_
      refine kx_iast (k := k) G L f2 hti (by omega) (by decide) dk_X2_takeOff_25 (fun w1 H locs e1 n1 o1 L => ?_)
      refine lv_iinc (v := (nI (k + 1))) (lv' := [(2, .int (nI (k + 1))), (0, .ref b), (1, .int a1)]) hx hb dk_X2_takeOff_26 hl (k := 0) rfl (kx_inc (by omega)) (by decide) rfl (fun ls hl => ?_)
      refine lv_goto (tgt := 2) hx hb dk_X2_takeOff_29 (by decide) ?_
      exact ih (k + 1) (by omega) w1 H locs _ e1 (n1.trans hlen) (fun j h2 => (o1 j h2).trans (hoth j h2)) L ls (lv_sub hl [0, 1, 2] rfl)
  exact loop n 0 (by omega) w _ _ g hg rfl (fun _ _ => rfl) L ls (lv_sub hl [0, 1, 2] rfl)
set_option maxHeartbeats 4000000 in
theorem kx_X2_add {l : Launch} (hl9 : l.stackTraces = false) (D : va_G) {tys : List (ClassId × FieldType)} {w : va_W} {sz : Nat} (hD0 : va_D (va_A w sz) w) {b b2 q q2 n : Nat} {ix lo : Int32} {cI : ClassId} {g : Nat → Int32} {a1 : Int32} (hti : tys[0]? = some (cI, .int)) (hf : w[q]? = some (b, .inr (8, [.ref b2, .int (nI n), .int ix, .int lo]))) (hg : w[q2]? = some (b2, .inl (cI, 20, .inl g))) (hn : n ≤ 20) (hok : ks_ok g n ix lo) (hd : a1.toInt ≤ 40000000) : kx_C l yX2_add cX2_add 3 none 3 0 0 2 [.ref b, .int a1] D tys w sz (fun res w1 => ∃ (mm : Nat) (ix1 lo1 : Int32) (g1 : Nat → Int32), mm ≤ 20 ∧ w1[q]? = some (b, .inr (8, [.ref b2, .int (nI mm), .int ix1, .int lo1])) ∧ w1[q2]? = some (b2, .inl (cI, 20, .inl g1)) ∧ ks_ok g1 mm ix1 lo1 ∧ w1.length = w.length ∧ ∀ j, j ≠ q → j ≠ q2 → w1[j]? = w[j]?) (fun _ => False) := by
  refine vx_ofW (cc := cX2_add) (maxL := 3) (ret := none) (by decide +kernel) rfl ?_
  intro p e s m args below meth c s₁ B9 hml hne hv
  obtain ⟨rfl, hsz, hP, hK, hT⟩ := hv
  subst hsz
  have hx := B9.exec
  have hb := B9.bytes
  have hr := B9.returns
  have hlocks := B9.notSynchronized
  have hts0 := atoms_spec (ws := Cond.code yX2_add cX2_add 3 none :: en_cw) B9.pre
  have hts : ∀ z ∈ en_cw, z.before _ s = true := fun z hz => hts0 z (List.mem_cons_of_mem _ hz)
  have hown : s.vm.findClass RX2 = some m.cls := findClass_of_methodNamed B9.named
  have G : kx_G p s m ([.ref b, .int a1] : List Value).toArray c cX2_add RX2 D tys (va_A w s.heap.size) := ⟨hx, hb, hts, hown, hK, hT, fun q h => Or.inr h⟩
  have L : kx_H D (va_A w s.heap.size) s w s.heap [] := ⟨hP, ⟨hD0.1, fun j z hz => Or.inl ⟨j, z.2, hz⟩⟩, va_S.rf⟩
  have hl := lv_entry ([.ref b, .int a1] : List Value) (n := 3) (Nat.le_of_ble_eq_true rfl)
  rw [lg_entry_eq]
  generalize (lg_sl ([.ref b, .int a1] : List Value) ++ List.replicate (3 - (lg_sl ([.ref b, .int a1] : List Value)).length) Slot.unset).toArray = ls at hl ⊢
  have hl : lv_has ls 3 [(0, .ref b), (1, .int a1)] := hl
  have hqq : q ≠ q2 := fun e => by subst e; exact absurd (Prod.mk.inj (Option.some.inj (hg.symm.trans hf))).2 (by simp)
  refine lv_aload_n hx hb dk_X2_add_0 rfl (lv_at hl 0 rfl) ?_
  refine kx_get (v := .int (nI n)) G L (en_FTX2_ok (15, 8, 1) (by decide)) hf rfl dk_X2_add_1 ?_
  have k2 : (nI n).toInt = (((n) : Nat) : Int) := kx_nI (by omega)
  have k3 : (0 : Int32).toInt = 0 := by decide
  refine lv_if_ne (tgt := 11) hx hb dk_X2_add_4 (by decide) (fun c1 => ?_) (fun c1 => ?_)
  · skip
    have tc1 : ¬ ((nI n) : Int32).toInt = (0 : Int32).toInt := fun h => c1 (Int32.toInt_inj.mp h)
    obtain ⟨-, -, hlo⟩ := hok.resolve_left (by omega)
    refine lv_iconst (v := 0) hx hb dk_X2_add_11 (by decide) ?_
    refine lv_istore_n (lv' := [(2, .int 0), (0, .ref b), (1, .int a1)]) hx hb dk_X2_add_12 rfl hl (by decide) rfl (fun ls hl => ?_)
    refine lv_aload_n hx hb dk_X2_add_13 rfl (lv_at hl 1 rfl) ?_
    refine lv_iload_n hx hb dk_X2_add_14 rfl (lv_at hl 2 rfl) ?_
    refine kx_cV (As := [.int a1]) (rest := []) (q := q) (ci := 8) G L (kx_X2_keep hl9 D (kx_D1 L) hti hf hg hn (a1 := a1)) gc_RX2_19v hf rfl rfl rfl (hml.trans hl.1.symm) ⟨Nat.le_of_ble_eq_true rfl, Nat.le_of_ble_eq_true rfl⟩ ⟨Nat.le_of_ble_eq_true rfl, Nat.le_of_ble_eq_true rfl⟩ (Nat.le_of_ble_eq_true rfl) dk_X2_add_15 (fun _ _ _ _ _ h9 => h9.elim) (fun res w4 H locs hrv hq4 L => ?_)
    obtain ⟨mm, g1, hm, hm0, f1, f2, hgm, hlen, hoth⟩ := hq4
    obtain rfl := (show res = none from hrv)
    refine lv_iload_n hx hb dk_X2_add_18 rfl (lv_at hl 0 rfl) ?_
    refine lv_if_eq (tgt := 39) hx hb dk_X2_add_19 (by decide) (fun _ => ?_) (fun c9 => absurd (by decide) c9)
    refine lv_aload_n hx hb dk_X2_add_39 rfl (lv_at hl 1 rfl) ?_
    refine lv_aload_n hx hb dk_X2_add_40 rfl (lv_at hl 1 rfl) ?_
    refine lv_iload_n hx hb dk_X2_add_41 rfl (lv_at hl 2 rfl) ?_
    refine kx_cV (As := [.int a1]) (rest := [.ref b]) (q := q) (ci := 8) G L (kx_X2_offFor hl9 D (kx_D1 L) hti f1 f2 (show mm + 1 ≤ 20 by omega) (a1 := a1)) gc_RX2_33v f1 rfl rfl rfl (hml.trans hl.1.symm) ⟨Nat.le_of_ble_eq_true rfl, Nat.le_of_ble_eq_true rfl⟩ ⟨Nat.le_of_ble_eq_true rfl, Nat.le_of_ble_eq_true rfl⟩ (Nat.le_of_ble_eq_true rfl) dk_X2_add_42 (fun _ _ _ _ _ h9 => h9.elim) (fun res w5 H locs hrv hq5 L => ?_)
    obtain ⟨ew5, hq5⟩ := hq5
    have ew5 := ew5.symm
    subst ew5
    obtain ⟨v, rfl⟩ := hq5
    refine kx_cV (As := [.int v]) (rest := []) (q := q) (ci := 8) G L (kx_X2_takeOff hl9 D (kx_D1 L) hti f1 f2 (show mm + 1 ≤ 20 by omega) (a1 := v)) gc_RX2_37v f1 rfl rfl rfl (hml.trans hl.1.symm) ⟨Nat.le_of_ble_eq_true rfl, Nat.le_of_ble_eq_true rfl⟩ ⟨Nat.le_of_ble_eq_true rfl, Nat.le_of_ble_eq_true rfl⟩ (Nat.le_of_ble_eq_true rfl) dk_X2_add_45 (fun _ _ _ _ _ h9 => h9.elim) (fun res w6 H locs hrv hq6 L => ?_)
    obtain ⟨g2, h2, hlen2, hoth2⟩ := hq6
    obtain rfl := (show res = none from hrv)
    have h1 := (hoth2 q hqq).trans f1
    refine lv_aload_n hx hb dk_X2_add_48 rfl (lv_at hl 1 rfl) ?_
    refine lv_aload_n hx hb dk_X2_add_49 rfl (lv_at hl 1 rfl) ?_
    refine lv_aload_n hx hb dk_X2_add_50 rfl (lv_at hl 1 rfl) ?_
    refine kx_cV (As := []) (rest := [.ref b, .ref b]) (q := q) (ci := 8) G L (kx_X2_mean hl9 D (kx_D1 L) hti h1 h2 (show mm + 1 ≤ 20 by omega)) gc_RX2_23v h1 rfl rfl rfl (hml.trans hl.1.symm) ⟨Nat.le_of_ble_eq_true rfl, Nat.le_of_ble_eq_true rfl⟩ ⟨Nat.le_of_ble_eq_true rfl, Nat.le_of_ble_eq_true rfl⟩ (Nat.le_of_ble_eq_true rfl) dk_X2_add_51 (fun _ _ _ _ _ h9 => h9.elim) (fun res w7 H locs hrv hq7 L => ?_)
    obtain ⟨ew7, hq7⟩ := hq7
    have ew7 := ew7.symm
    subst ew7
    obtain rfl := hq7
    refine kx_cV (As := [.int (ks_mn g2 (mm + 1))]) (rest := [.ref b]) (q := q) (ci := 8) G L (kx_X2_bounded hl9 D (kx_D1 L) hti h1 h2 (show mm + 1 ≤ 20 by omega) (a1 := ks_mn g2 (mm + 1))) gc_RX2_40v h1 rfl rfl rfl (hml.trans hl.1.symm) ⟨Nat.le_of_ble_eq_true rfl, Nat.le_of_ble_eq_true rfl⟩ ⟨Nat.le_of_ble_eq_true rfl, Nat.le_of_ble_eq_true rfl⟩ (Nat.le_of_ble_eq_true rfl) dk_X2_add_54 (fun _ _ _ _ _ h9 => h9.elim) (fun res w8 H locs hrv hq8 L => ?_)
    obtain ⟨ew8, hq8⟩ := hq8
    have ew8 := ew8.symm
    subst ew8
    obtain rfl := hq8
    refine kx_put (x := (ks_bd lo (ks_mn g2 (mm + 1)))) G L (en_PTX2_ok (27, 8, 2, 0) (by decide)) h1 (Nat.le_of_ble_eq_true rfl) (en_lo _) (en_hi _) dk_X2_add_57 (fun w9 H locs e9 n9 o9 L => ?_)
    refine lv_aload_n hx hb dk_X2_add_60 rfl (lv_at hl 1 rfl) ?_
    refine lv_aload_n hx hb dk_X2_add_61 rfl (lv_at hl 1 rfl) ?_
    refine kx_get (v := .int lo) G L (en_FTX2_ok (30, 8, 3) (by decide)) e9 rfl dk_X2_add_62 ?_
    refine lv_aload_n hx hb dk_X2_add_65 rfl (lv_at hl 1 rfl) ?_
    refine kx_get (v := .int (ks_bd lo (ks_mn g2 (mm + 1)))) G L (en_FTX2_ok (27, 8, 2) (by decide)) e9 rfl dk_X2_add_66 ?_
    refine kx_cS (As := [.int lo, .int (ks_bd lo (ks_mn g2 (mm + 1)))]) (rest := [.ref b]) G L (kx_J9_min_7cf53 hl9 D (kx_D1 L)) gc_RX2_43s rfl (hml.trans hl.1.symm) ⟨Nat.le_of_ble_eq_true rfl, Nat.le_of_ble_eq_true rfl⟩ ⟨Nat.le_of_ble_eq_true rfl, Nat.le_of_ble_eq_true rfl⟩ (Nat.le_of_ble_eq_true rfl) dk_X2_add_69 (fun _ _ _ _ _ h9 => h9.elim) (fun res w10 H locs hrv hq10 L => ?_)
    obtain ⟨ew10, hq10⟩ := hq10
    have ew10 := ew10.symm
    subst ew10
    obtain rfl := hq10
    refine kx_put (x := (ks_mi lo (ks_bd lo (ks_mn g2 (mm + 1))))) G L (en_PTX2_ok (30, 8, 3, 0) (by decide)) e9 (Nat.le_of_ble_eq_true rfl) (en_lo _) (en_hi _) dk_X2_add_72 (fun w11 H locs e11 n11 o11 L => ?_)
    exact vx_ret (W.widen (Nat.le_of_ble_eq_true rfl) (Nat.le_of_ble_eq_true rfl) (W.vret hx hb hr (fun T9 hT9 _ => ⟨⟨w11, rfl, ⟨mm + 1, (ks_bd lo (ks_mn g2 (mm + 1))), ks_mi lo (ks_bd lo (ks_mn g2 (mm + 1))), g2, by omega, e11, ((o11 q2 hqq.symm).trans (o9 q2 hqq.symm)).trans h2, ks_next hlo, ((n11.trans n9).trans hlen2).trans hlen, fun j a1 a2 => ((o11 j a1).trans (o9 j a1)).trans ((hoth2 j a2).trans (hoth j a1 a2))⟩, by rw [hT9]; exact L.1, L.2.1⟩, L.2.2.F hT9⟩) L.2.2.2.2 dk_X2_add_75 hlocks))
  · skip
    have tc1 : ((nI n) : Int32).toInt = (0 : Int32).toInt := by rw [c1]
    refine lv_iconst (v := 1) hx hb dk_X2_add_7 (by decide) ?_
    refine lv_goto (tgt := 12) hx hb dk_X2_add_8 (by decide) ?_
    refine lv_istore_n (lv' := [(2, .int 1), (0, .ref b), (1, .int a1)]) hx hb dk_X2_add_12 rfl hl (by decide) rfl (fun ls hl => ?_)
    refine lv_aload_n hx hb dk_X2_add_13 rfl (lv_at hl 1 rfl) ?_
    refine lv_iload_n hx hb dk_X2_add_14 rfl (lv_at hl 2 rfl) ?_
    refine kx_cV (As := [.int a1]) (rest := []) (q := q) (ci := 8) G L (kx_X2_keep hl9 D (kx_D1 L) hti hf hg hn (a1 := a1)) gc_RX2_19v hf rfl rfl rfl (hml.trans hl.1.symm) ⟨Nat.le_of_ble_eq_true rfl, Nat.le_of_ble_eq_true rfl⟩ ⟨Nat.le_of_ble_eq_true rfl, Nat.le_of_ble_eq_true rfl⟩ (Nat.le_of_ble_eq_true rfl) dk_X2_add_15 (fun _ _ _ _ _ h9 => h9.elim) (fun res w12 H locs hrv hq12 L => ?_)
    obtain ⟨mm, g1, hm, hm0, f1, f2, hgm, hlen, hoth⟩ := hq12
    obtain rfl := (show res = none from hrv)
    refine lv_iload_n hx hb dk_X2_add_18 rfl (lv_at hl 0 rfl) ?_
    refine lv_if_eq (tgt := 39) hx hb dk_X2_add_19 (by decide) (fun c9 => absurd c9 (by decide)) (fun _ => ?_)
    refine lv_aload_n hx hb dk_X2_add_22 rfl (lv_at hl 1 rfl) ?_
    refine lv_aload_n hx hb dk_X2_add_23 rfl (lv_at hl 1 rfl) ?_
    refine kx_cV (As := []) (rest := [.ref b]) (q := q) (ci := 8) G L (kx_X2_mean hl9 D (kx_D1 L) hti f1 f2 (show mm + 1 ≤ 20 by omega)) gc_RX2_23v f1 rfl rfl rfl (hml.trans hl.1.symm) ⟨Nat.le_of_ble_eq_true rfl, Nat.le_of_ble_eq_true rfl⟩ ⟨Nat.le_of_ble_eq_true rfl, Nat.le_of_ble_eq_true rfl⟩ (Nat.le_of_ble_eq_true rfl) dk_X2_add_24 (fun _ _ _ _ _ h9 => h9.elim) (fun res w13 H locs hrv hq13 L => ?_)
    obtain ⟨ew13, hq13⟩ := hq13
    have ew13 := ew13.symm
    subst ew13
    obtain rfl := hq13
    refine kx_put (x := (ks_mn g1 (mm + 1))) G L (en_PTX2_ok (27, 8, 2, 0) (by decide)) f1 (Nat.le_of_ble_eq_true rfl) (en_lo _) (en_hi _) dk_X2_add_27 (fun w14 H locs e14 n14 o14 L => ?_)
    refine lv_aload_n hx hb dk_X2_add_30 rfl (lv_at hl 1 rfl) ?_
    refine lv_aload_n hx hb dk_X2_add_31 rfl (lv_at hl 1 rfl) ?_
    refine kx_get (v := .int (ks_mn g1 (mm + 1))) G L (en_FTX2_ok (27, 8, 2) (by decide)) e14 rfl dk_X2_add_32 ?_
    refine kx_put (x := (ks_mn g1 (mm + 1))) G L (en_PTX2_ok (30, 8, 3, 0) (by decide)) e14 (Nat.le_of_ble_eq_true rfl) (en_lo _) (en_hi _) dk_X2_add_35 (fun w15 H locs e15 n15 o15 L => ?_)
    exact vx_ret (W.widen (Nat.le_of_ble_eq_true rfl) (Nat.le_of_ble_eq_true rfl) (W.vret hx hb hr (fun T9 hT9 _ => ⟨⟨w15, rfl, ⟨mm + 1, ks_mn g1 (mm + 1), ks_mn g1 (mm + 1), g1, by omega, e15, ((o15 q2 hqq.symm).trans (o14 q2 hqq.symm)).trans f2, by have e0 := hm0 (by omega); subst e0; exact ks_first (by rw [hgm]; exact hd), (n15.trans n14).trans hlen, fun j h1 h2 => ((o15 j h1).trans (o14 j h1)).trans (hoth j h1 h2)⟩, by rw [hT9]; exact L.1, L.2.1⟩, L.2.2.F hT9⟩) L.2.2.2.2 dk_X2_add_38 hlocks))
