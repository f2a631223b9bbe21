/-! written by wip/whole/pp.py out of wip/whole/src/14.fleet.lean -/
theorem dX0_isNumber_0 : decode cX0_isNumber 0 = .ok (.iload_n 0, 1) := by decide +kernel
theorem dX0_isNumber_1 : decode cX0_isNumber 1 = .ok (.ifCond .lt 13, 3) := by decide +kernel
theorem dX0_isNumber_4 : decode cX0_isNumber 4 = .ok (.iload_n 0, 1) := by decide +kernel
theorem dX0_isNumber_5 : decode cX0_isNumber 5 = .ok (.bipush 10, 2) := by decide +kernel
theorem dX0_isNumber_7 : decode cX0_isNumber 7 = .ok (.if_icmp .ge 7, 3) := by decide +kernel
theorem dX0_isNumber_10 : decode cX0_isNumber 10 = .ok (.iconst 1, 1) := by decide +kernel
theorem dX0_isNumber_11 : decode cX0_isNumber 11 = .ok (.goto 4, 3) := by decide +kernel
theorem dX0_isNumber_14 : decode cX0_isNumber 14 = .ok (.iconst 0, 1) := by decide +kernel
theorem dX0_isNumber_15 : decode cX0_isNumber 15 = .ok (.ireturn, 1) := by decide +kernel
theorem dX0_has_0 : decode cX0_has 0 = .ok (.iload_n 1, 1) := by decide +kernel
theorem dX0_has_1 : decode cX0_has 1 = .ok (.invokestatic 32, 3) := by decide +kernel
theorem dX0_has_4 : decode cX0_has 4 = .ok (.ifCond .eq 16, 3) := by decide +kernel
theorem dX0_has_7 : decode cX0_has 7 = .ok (.aload_n 0, 1) := by decide +kernel
theorem dX0_has_8 : decode cX0_has 8 = .ok (.getfield 9, 3) := by decide +kernel
theorem dX0_has_11 : decode cX0_has 11 = .ok (.iload_n 1, 1) := by decide +kernel
theorem dX0_has_12 : decode cX0_has 12 = .ok (.iaload, 1) := by decide +kernel
theorem dX0_has_13 : decode cX0_has 13 = .ok (.ifCond .eq 7, 3) := by decide +kernel
theorem dX0_has_16 : decode cX0_has 16 = .ok (.iconst 1, 1) := by decide +kernel
theorem dX0_has_17 : decode cX0_has 17 = .ok (.goto 4, 3) := by decide +kernel
theorem dX0_has_20 : decode cX0_has 20 = .ok (.iconst 0, 1) := by decide +kernel
theorem dX0_has_21 : decode cX0_has 21 = .ok (.ireturn, 1) := by decide +kernel
theorem dX0_isUp_0 : decode cX0_isUp 0 = .ok (.aload_n 0, 1) := by decide +kernel
theorem dX0_isUp_1 : decode cX0_isUp 1 = .ok (.iload_n 1, 1) := by decide +kernel
theorem dX0_isUp_2 : decode cX0_isUp 2 = .ok (.invokevirtual 36, 3) := by decide +kernel
theorem dX0_isUp_5 : decode cX0_isUp 5 = .ok (.ifCond .eq 16, 3) := by decide +kernel
theorem dX0_isUp_8 : decode cX0_isUp 8 = .ok (.aload_n 0, 1) := by decide +kernel
theorem dX0_isUp_9 : decode cX0_isUp 9 = .ok (.getfield 18, 3) := by decide +kernel
theorem dX0_isUp_12 : decode cX0_isUp 12 = .ok (.iload_n 1, 1) := by decide +kernel
theorem dX0_isUp_13 : decode cX0_isUp 13 = .ok (.baload, 1) := by decide +kernel
theorem dX0_isUp_14 : decode cX0_isUp 14 = .ok (.ifCond .eq 7, 3) := by decide +kernel
theorem dX0_isUp_17 : decode cX0_isUp 17 = .ok (.iconst 1, 1) := by decide +kernel
theorem dX0_isUp_18 : decode cX0_isUp 18 = .ok (.goto 4, 3) := by decide +kernel
theorem dX0_isUp_21 : decode cX0_isUp 21 = .ok (.iconst 0, 1) := by decide +kernel
theorem dX0_isUp_22 : decode cX0_isUp 22 = .ok (.ireturn, 1) := by decide +kernel
theorem dX0_name_0 : decode cX0_name 0 = .ok (.aload_n 0, 1) := by decide +kernel
theorem dX0_name_1 : decode cX0_name 1 = .ok (.iload_n 1, 1) := by decide +kernel
theorem dX0_name_2 : decode cX0_name 2 = .ok (.invokevirtual 36, 3) := by decide +kernel
theorem dX0_name_5 : decode cX0_name 5 = .ok (.ifCond .eq 12, 3) := by decide +kernel
theorem dX0_name_8 : decode cX0_name 8 = .ok (.aload_n 0, 1) := by decide +kernel
theorem dX0_name_9 : decode cX0_name 9 = .ok (.getfield 9, 3) := by decide +kernel
theorem dX0_name_12 : decode cX0_name 12 = .ok (.iload_n 1, 1) := by decide +kernel
theorem dX0_name_13 : decode cX0_name 13 = .ok (.iaload, 1) := by decide +kernel
theorem dX0_name_14 : decode cX0_name 14 = .ok (.goto 4, 3) := by decide +kernel
theorem dX0_name_17 : decode cX0_name 17 = .ok (.iconst 0, 1) := by decide +kernel
theorem dX0_name_18 : decode cX0_name 18 = .ok (.ireturn, 1) := by decide +kernel
theorem dX0_weight_0 : decode cX0_weight 0 = .ok (.aload_n 0, 1) := by decide +kernel
theorem dX0_weight_1 : decode cX0_weight 1 = .ok (.iload_n 1, 1) := by decide +kernel
theorem dX0_weight_2 : decode cX0_weight 2 = .ok (.invokevirtual 36, 3) := by decide +kernel
theorem dX0_weight_5 : decode cX0_weight 5 = .ok (.ifCond .eq 12, 3) := by decide +kernel
theorem dX0_weight_8 : decode cX0_weight 8 = .ok (.aload_n 0, 1) := by decide +kernel
theorem dX0_weight_9 : decode cX0_weight 9 = .ok (.getfield 15, 3) := by decide +kernel
theorem dX0_weight_12 : decode cX0_weight 12 = .ok (.iload_n 1, 1) := by decide +kernel
theorem dX0_weight_13 : decode cX0_weight 13 = .ok (.iaload, 1) := by decide +kernel
theorem dX0_weight_14 : decode cX0_weight 14 = .ok (.goto 4, 3) := by decide +kernel
theorem dX0_weight_17 : decode cX0_weight 17 = .ok (.iconst 0, 1) := by decide +kernel
theorem dX0_weight_18 : decode cX0_weight 18 = .ok (.ireturn, 1) := by decide +kernel
theorem dX0_load_0 : decode cX0_load 0 = .ok (.aload_n 0, 1) := by decide +kernel
theorem dX0_load_1 : decode cX0_load 1 = .ok (.iload_n 1, 1) := by decide +kernel
theorem dX0_load_2 : decode cX0_load 2 = .ok (.invokevirtual 36, 3) := by decide +kernel
theorem dX0_load_5 : decode cX0_load 5 = .ok (.ifCond .eq 12, 3) := by decide +kernel
theorem dX0_load_8 : decode cX0_load 8 = .ok (.aload_n 0, 1) := by decide +kernel
theorem dX0_load_9 : decode cX0_load 9 = .ok (.getfield 22, 3) := by decide +kernel
theorem dX0_load_12 : decode cX0_load 12 = .ok (.iload_n 1, 1) := by decide +kernel
theorem dX0_load_13 : decode cX0_load 13 = .ok (.laload, 1) := by decide +kernel
theorem dX0_load_14 : decode cX0_load 14 = .ok (.goto 4, 3) := by decide +kernel
theorem dX0_load_17 : decode cX0_load 17 = .ok (.lconst 0, 1) := by decide +kernel
theorem dX0_load_18 : decode cX0_load 18 = .ok (.lreturn, 1) := by decide +kernel
theorem dX0_size_0 : decode cX0_size 0 = .ok (.iconst 0, 1) := by decide +kernel
theorem dX0_size_1 : decode cX0_size 1 = .ok (.istore_n 1, 1) := by decide +kernel
theorem dX0_size_2 : decode cX0_size 2 = .ok (.iconst 0, 1) := by decide +kernel
theorem dX0_size_3 : decode cX0_size 3 = .ok (.istore_n 2, 1) := by decide +kernel
theorem dX0_size_4 : decode cX0_size 4 = .ok (.iload_n 2, 1) := by decide +kernel
theorem dX0_size_5 : decode cX0_size 5 = .ok (.bipush 10, 2) := by decide +kernel
theorem dX0_size_7 : decode cX0_size 7 = .ok (.if_icmp .ge 20, 3) := by decide +kernel
theorem dX0_size_10 : decode cX0_size 10 = .ok (.aload_n 0, 1) := by decide +kernel
theorem dX0_size_11 : decode cX0_size 11 = .ok (.iload_n 2, 1) := by decide +kernel
theorem dX0_size_12 : decode cX0_size 12 = .ok (.invokevirtual 36, 3) := by decide +kernel
theorem dX0_size_15 : decode cX0_size 15 = .ok (.ifCond .eq 6, 3) := by decide +kernel
theorem dX0_size_18 : decode cX0_size 18 = .ok (.iinc 1 1, 3) := by decide +kernel
theorem dX0_size_21 : decode cX0_size 21 = .ok (.iinc 2 1, 3) := by decide +kernel
theorem dX0_size_24 : decode cX0_size 24 = .ok (.goto (-20), 3) := by decide +kernel
theorem dX0_size_27 : decode cX0_size 27 = .ok (.iload_n 1, 1) := by decide +kernel
theorem dX0_size_28 : decode cX0_size 28 = .ok (.ireturn, 1) := by decide +kernel
theorem dX0_upCount_0 : decode cX0_upCount 0 = .ok (.iconst 0, 1) := by decide +kernel
theorem dX0_upCount_1 : decode cX0_upCount 1 = .ok (.istore_n 1, 1) := by decide +kernel
theorem dX0_upCount_2 : decode cX0_upCount 2 = .ok (.iconst 0, 1) := by decide +kernel
theorem dX0_upCount_3 : decode cX0_upCount 3 = .ok (.istore_n 2, 1) := by decide +kernel
theorem dX0_upCount_4 : decode cX0_upCount 4 = .ok (.iload_n 2, 1) := by decide +kernel
theorem dX0_upCount_5 : decode cX0_upCount 5 = .ok (.bipush 10, 2) := by decide +kernel
theorem dX0_upCount_7 : decode cX0_upCount 7 = .ok (.if_icmp .ge 20, 3) := by decide +kernel
theorem dX0_upCount_10 : decode cX0_upCount 10 = .ok (.aload_n 0, 1) := by decide +kernel
theorem dX0_upCount_11 : decode cX0_upCount 11 = .ok (.iload_n 2, 1) := by decide +kernel
theorem dX0_upCount_12 : decode cX0_upCount 12 = .ok (.invokevirtual 39, 3) := by decide +kernel
theorem dX0_upCount_15 : decode cX0_upCount 15 = .ok (.ifCond .eq 6, 3) := by decide +kernel
theorem dX0_upCount_18 : decode cX0_upCount 18 = .ok (.iinc 1 1, 3) := by decide +kernel
theorem dX0_upCount_21 : decode cX0_upCount 21 = .ok (.iinc 2 1, 3) := by decide +kernel
theorem dX0_upCount_24 : decode cX0_upCount 24 = .ok (.goto (-20), 3) := by decide +kernel
theorem dX0_upCount_27 : decode cX0_upCount 27 = .ok (.iload_n 1, 1) := by decide +kernel
theorem dX0_upCount_28 : decode cX0_upCount 28 = .ok (.ireturn, 1) := by decide +kernel
theorem dX0_find_0 : decode cX0_find 0 = .ok (.iconst 0, 1) := by decide +kernel
theorem dX0_find_1 : decode cX0_find 1 = .ok (.istore_n 2, 1) := by decide +kernel
theorem dX0_find_2 : decode cX0_find 2 = .ok (.iload_n 2, 1) := by decide +kernel
theorem dX0_find_3 : decode cX0_find 3 = .ok (.bipush 10, 2) := by decide +kernel
theorem dX0_find_5 : decode cX0_find 5 = .ok (.if_icmp .ge 21, 3) := by decide +kernel
theorem dX0_find_8 : decode cX0_find 8 = .ok (.aload_n 0, 1) := by decide +kernel
theorem dX0_find_9 : decode cX0_find 9 = .ok (.getfield 9, 3) := by decide +kernel
theorem dX0_find_12 : decode cX0_find 12 = .ok (.iload_n 2, 1) := by decide +kernel
theorem dX0_find_13 : decode cX0_find 13 = .ok (.iaload, 1) := by decide +kernel
theorem dX0_find_14 : decode cX0_find 14 = .ok (.iload_n 1, 1) := by decide +kernel
theorem dX0_find_15 : decode cX0_find 15 = .ok (.if_icmp .ne 5, 3) := by decide +kernel
theorem dX0_find_18 : decode cX0_find 18 = .ok (.iload_n 2, 1) := by decide +kernel
theorem dX0_find_19 : decode cX0_find 19 = .ok (.ireturn, 1) := by decide +kernel
theorem dX0_find_20 : decode cX0_find 20 = .ok (.iinc 2 1, 3) := by decide +kernel
theorem dX0_find_23 : decode cX0_find 23 = .ok (.goto (-21), 3) := by decide +kernel
theorem dX0_find_26 : decode cX0_find 26 = .ok (.iconst (-1), 1) := by decide +kernel
theorem dX0_find_27 : decode cX0_find 27 = .ok (.ireturn, 1) := by decide +kernel
theorem dX0_lowestFree_0 : decode cX0_lowestFree 0 = .ok (.aload_n 0, 1) := by decide +kernel
theorem dX0_lowestFree_1 : decode cX0_lowestFree 1 = .ok (.iconst 0, 1) := by decide +kernel
theorem dX0_lowestFree_2 : decode cX0_lowestFree 2 = .ok (.invokevirtual 42, 3) := by decide +kernel
theorem dX0_lowestFree_5 : decode cX0_lowestFree 5 = .ok (.ireturn, 1) := by decide +kernel
theorem dX0_weightSum_0 : decode cX0_weightSum 0 = .ok (.iconst 0, 1) := by decide +kernel
theorem dX0_weightSum_1 : decode cX0_weightSum 1 = .ok (.istore_n 1, 1) := by decide +kernel
theorem dX0_weightSum_2 : decode cX0_weightSum 2 = .ok (.iconst 0, 1) := by decide +kernel
theorem dX0_weightSum_3 : decode cX0_weightSum 3 = .ok (.istore_n 2, 1) := by decide +kernel
theorem dX0_weightSum_4 : decode cX0_weightSum 4 = .ok (.iload_n 2, 1) := by decide +kernel
theorem dX0_weightSum_5 : decode cX0_weightSum 5 = .ok (.bipush 10, 2) := by decide +kernel
theorem dX0_weightSum_7 : decode cX0_weightSum 7 = .ok (.if_icmp .ge 26, 3) := by decide +kernel
theorem dX0_weightSum_10 : decode cX0_weightSum 10 = .ok (.aload_n 0, 1) := by decide +kernel
theorem dX0_weightSum_11 : decode cX0_weightSum 11 = .ok (.iload_n 2, 1) := by decide +kernel
theorem dX0_weightSum_12 : decode cX0_weightSum 12 = .ok (.invokevirtual 39, 3) := by decide +kernel
theorem dX0_weightSum_15 : decode cX0_weightSum 15 = .ok (.ifCond .eq 12, 3) := by decide +kernel
theorem dX0_weightSum_18 : decode cX0_weightSum 18 = .ok (.iload_n 1, 1) := by decide +kernel
theorem dX0_weightSum_19 : decode cX0_weightSum 19 = .ok (.aload_n 0, 1) := by decide +kernel
theorem dX0_weightSum_20 : decode cX0_weightSum 20 = .ok (.getfield 15, 3) := by decide +kernel
theorem dX0_weightSum_23 : decode cX0_weightSum 23 = .ok (.iload_n 2, 1) := by decide +kernel
theorem dX0_weightSum_24 : decode cX0_weightSum 24 = .ok (.iaload, 1) := by decide +kernel
theorem dX0_weightSum_25 : decode cX0_weightSum 25 = .ok (.iadd, 1) := by decide +kernel
theorem dX0_weightSum_26 : decode cX0_weightSum 26 = .ok (.istore_n 1, 1) := by decide +kernel
theorem dX0_weightSum_27 : decode cX0_weightSum 27 = .ok (.iinc 2 1, 3) := by decide +kernel
theorem dX0_weightSum_30 : decode cX0_weightSum 30 = .ok (.goto (-26), 3) := by decide +kernel
theorem dX0_weightSum_33 : decode cX0_weightSum 33 = .ok (.iload_n 1, 1) := by decide +kernel
theorem dX0_weightSum_34 : decode cX0_weightSum 34 = .ok (.ireturn, 1) := by decide +kernel
theorem dX0_greatestWeightWithout_0 : decode cX0_greatestWeightWithout 0 = .ok (.iconst 0, 1) := by decide +kernel
theorem dX0_greatestWeightWithout_1 : decode cX0_greatestWeightWithout 1 = .ok (.istore_n 2, 1) := by decide +kernel
theorem dX0_greatestWeightWithout_2 : decode cX0_greatestWeightWithout 2 = .ok (.iconst 0, 1) := by decide +kernel
theorem dX0_greatestWeightWithout_3 : decode cX0_greatestWeightWithout 3 = .ok (.istore_n 3, 1) := by decide +kernel
theorem dX0_greatestWeightWithout_4 : decode cX0_greatestWeightWithout 4 = .ok (.iload_n 3, 1) := by decide +kernel
theorem dX0_greatestWeightWithout_5 : decode cX0_greatestWeightWithout 5 = .ok (.bipush 10, 2) := by decide +kernel
theorem dX0_greatestWeightWithout_7 : decode cX0_greatestWeightWithout 7 = .ok (.if_icmp .ge 33, 3) := by decide +kernel
theorem dX0_greatestWeightWithout_10 : decode cX0_greatestWeightWithout 10 = .ok (.iload_n 3, 1) := by decide +kernel
theorem dX0_greatestWeightWithout_11 : decode cX0_greatestWeightWithout 11 = .ok (.iload_n 1, 1) := by decide +kernel
theorem dX0_greatestWeightWithout_12 : decode cX0_greatestWeightWithout 12 = .ok (.if_icmp .eq 22, 3) := by decide +kernel
theorem dX0_greatestWeightWithout_15 : decode cX0_greatestWeightWithout 15 = .ok (.aload_n 0, 1) := by decide +kernel
theorem dX0_greatestWeightWithout_16 : decode cX0_greatestWeightWithout 16 = .ok (.iload_n 3, 1) := by decide +kernel
theorem dX0_greatestWeightWithout_17 : decode cX0_greatestWeightWithout 17 = .ok (.invokevirtual 39, 3) := by decide +kernel
theorem dX0_greatestWeightWithout_20 : decode cX0_greatestWeightWithout 20 = .ok (.ifCond .eq 14, 3) := by decide +kernel
theorem dX0_greatestWeightWithout_23 : decode cX0_greatestWeightWithout 23 = .ok (.iload_n 2, 1) := by decide +kernel
theorem dX0_greatestWeightWithout_24 : decode cX0_greatestWeightWithout 24 = .ok (.aload_n 0, 1) := by decide +kernel
theorem dX0_greatestWeightWithout_25 : decode cX0_greatestWeightWithout 25 = .ok (.getfield 15, 3) := by decide +kernel
theorem dX0_greatestWeightWithout_28 : decode cX0_greatestWeightWithout 28 = .ok (.iload_n 3, 1) := by decide +kernel
theorem dX0_greatestWeightWithout_29 : decode cX0_greatestWeightWithout 29 = .ok (.iaload, 1) := by decide +kernel
theorem dX0_greatestWeightWithout_30 : decode cX0_greatestWeightWithout 30 = .ok (.invokestatic 46, 3) := by decide +kernel
theorem dX0_greatestWeightWithout_33 : decode cX0_greatestWeightWithout 33 = .ok (.istore_n 2, 1) := by decide +kernel
theorem dX0_greatestWeightWithout_34 : decode cX0_greatestWeightWithout 34 = .ok (.iinc 3 1, 3) := by decide +kernel
theorem dX0_greatestWeightWithout_37 : decode cX0_greatestWeightWithout 37 = .ok (.goto (-33), 3) := by decide +kernel
theorem dX0_greatestWeightWithout_40 : decode cX0_greatestWeightWithout 40 = .ok (.iload_n 2, 1) := by decide +kernel
theorem dX0_greatestWeightWithout_41 : decode cX0_greatestWeightWithout 41 = .ok (.ireturn, 1) := by decide +kernel
theorem dX0_ranked_0 : decode cX0_ranked 0 = .ok (.iconst 0, 1) := by decide +kernel
theorem dX0_ranked_1 : decode cX0_ranked 1 = .ok (.istore_n 2, 1) := by decide +kernel
theorem dX0_ranked_2 : decode cX0_ranked 2 = .ok (.iload_n 2, 1) := by decide +kernel
theorem dX0_ranked_3 : decode cX0_ranked 3 = .ok (.bipush 10, 2) := by decide +kernel
theorem dX0_ranked_5 : decode cX0_ranked 5 = .ok (.if_icmp .ge 28, 3) := by decide +kernel
theorem dX0_ranked_8 : decode cX0_ranked 8 = .ok (.aload_n 0, 1) := by decide +kernel
theorem dX0_ranked_9 : decode cX0_ranked 9 = .ok (.iload_n 2, 1) := by decide +kernel
theorem dX0_ranked_10 : decode cX0_ranked 10 = .ok (.invokevirtual 39, 3) := by decide +kernel
theorem dX0_ranked_13 : decode cX0_ranked 13 = .ok (.ifCond .eq 14, 3) := by decide +kernel
theorem dX0_ranked_16 : decode cX0_ranked 16 = .ok (.aload_n 0, 1) := by decide +kernel
theorem dX0_ranked_17 : decode cX0_ranked 17 = .ok (.iload_n 2, 1) := by decide +kernel
theorem dX0_ranked_18 : decode cX0_ranked 18 = .ok (.invokevirtual 52, 3) := by decide +kernel
theorem dX0_ranked_21 : decode cX0_ranked 21 = .ok (.iload_n 1, 1) := by decide +kernel
theorem dX0_ranked_22 : decode cX0_ranked 22 = .ok (.if_icmp .ne 5, 3) := by decide +kernel
theorem dX0_ranked_25 : decode cX0_ranked 25 = .ok (.iload_n 2, 1) := by decide +kernel
theorem dX0_ranked_26 : decode cX0_ranked 26 = .ok (.ireturn, 1) := by decide +kernel
theorem dX0_ranked_27 : decode cX0_ranked 27 = .ok (.iinc 2 1, 3) := by decide +kernel
theorem dX0_ranked_30 : decode cX0_ranked 30 = .ok (.goto (-28), 3) := by decide +kernel
theorem dX0_ranked_33 : decode cX0_ranked 33 = .ok (.iconst (-1), 1) := by decide +kernel
theorem dX0_ranked_34 : decode cX0_ranked 34 = .ok (.ireturn, 1) := by decide +kernel
theorem dX0_countBefore_0 : decode cX0_countBefore 0 = .ok (.iconst 0, 1) := by decide +kernel
theorem dX0_countBefore_1 : decode cX0_countBefore 1 = .ok (.istore_n 2, 1) := by decide +kernel
theorem dX0_countBefore_2 : decode cX0_countBefore 2 = .ok (.iconst 0, 1) := by decide +kernel
theorem dX0_countBefore_3 : decode cX0_countBefore 3 = .ok (.istore_n 3, 1) := by decide +kernel
theorem dX0_countBefore_4 : decode cX0_countBefore 4 = .ok (.iload_n 3, 1) := by decide +kernel
theorem dX0_countBefore_5 : decode cX0_countBefore 5 = .ok (.bipush 10, 2) := by decide +kernel
theorem dX0_countBefore_7 : decode cX0_countBefore 7 = .ok (.if_icmp .ge 29, 3) := by decide +kernel
theorem dX0_countBefore_10 : decode cX0_countBefore 10 = .ok (.aload_n 0, 1) := by decide +kernel
theorem dX0_countBefore_11 : decode cX0_countBefore 11 = .ok (.iload_n 3, 1) := by decide +kernel
theorem dX0_countBefore_12 : decode cX0_countBefore 12 = .ok (.invokevirtual 39, 3) := by decide +kernel
theorem dX0_countBefore_15 : decode cX0_countBefore 15 = .ok (.ifCond .eq 15, 3) := by decide +kernel
theorem dX0_countBefore_18 : decode cX0_countBefore 18 = .ok (.aload_n 0, 1) := by decide +kernel
theorem dX0_countBefore_19 : decode cX0_countBefore 19 = .ok (.iload_n 3, 1) := by decide +kernel
theorem dX0_countBefore_20 : decode cX0_countBefore 20 = .ok (.iload_n 1, 1) := by decide +kernel
theorem dX0_countBefore_21 : decode cX0_countBefore 21 = .ok (.invokevirtual 55, 3) := by decide +kernel
theorem dX0_countBefore_24 : decode cX0_countBefore 24 = .ok (.ifCond .eq 6, 3) := by decide +kernel
theorem dX0_countBefore_27 : decode cX0_countBefore 27 = .ok (.iinc 2 1, 3) := by decide +kernel
theorem dX0_countBefore_30 : decode cX0_countBefore 30 = .ok (.iinc 3 1, 3) := by decide +kernel
theorem dX0_countBefore_33 : decode cX0_countBefore 33 = .ok (.goto (-29), 3) := by decide +kernel
theorem dX0_countBefore_36 : decode cX0_countBefore 36 = .ok (.iload_n 2, 1) := by decide +kernel
theorem dX0_countBefore_37 : decode cX0_countBefore 37 = .ok (.ireturn, 1) := by decide +kernel
theorem dX0_ranksBefore_0 : decode cX0_ranksBefore 0 = .ok (.aload_n 0, 1) := by decide +kernel
theorem dX0_ranksBefore_1 : decode cX0_ranksBefore 1 = .ok (.iload_n 1, 1) := by decide +kernel
theorem dX0_ranksBefore_2 : decode cX0_ranksBefore 2 = .ok (.invokevirtual 59, 3) := by decide +kernel
theorem dX0_ranksBefore_5 : decode cX0_ranksBefore 5 = .ok (.aload_n 0, 1) := by decide +kernel
theorem dX0_ranksBefore_6 : decode cX0_ranksBefore 6 = .ok (.iload_n 2, 1) := by decide +kernel
theorem dX0_ranksBefore_7 : decode cX0_ranksBefore 7 = .ok (.invokevirtual 63, 3) := by decide +kernel
theorem dX0_ranksBefore_10 : decode cX0_ranksBefore 10 = .ok (.i2l, 1) := by decide +kernel
theorem dX0_ranksBefore_11 : decode cX0_ranksBefore 11 = .ok (.lmul, 1) := by decide +kernel
theorem dX0_ranksBefore_12 : decode cX0_ranksBefore 12 = .ok (.lstore_n 3, 1) := by decide +kernel
theorem dX0_ranksBefore_13 : decode cX0_ranksBefore 13 = .ok (.aload_n 0, 1) := by decide +kernel
theorem dX0_ranksBefore_14 : decode cX0_ranksBefore 14 = .ok (.iload_n 2, 1) := by decide +kernel
theorem dX0_ranksBefore_15 : decode cX0_ranksBefore 15 = .ok (.invokevirtual 59, 3) := by decide +kernel
theorem dX0_ranksBefore_18 : decode cX0_ranksBefore 18 = .ok (.aload_n 0, 1) := by decide +kernel
theorem dX0_ranksBefore_19 : decode cX0_ranksBefore 19 = .ok (.iload_n 1, 1) := by decide +kernel
theorem dX0_ranksBefore_20 : decode cX0_ranksBefore 20 = .ok (.invokevirtual 63, 3) := by decide +kernel
theorem dX0_ranksBefore_23 : decode cX0_ranksBefore 23 = .ok (.i2l, 1) := by decide +kernel
theorem dX0_ranksBefore_24 : decode cX0_ranksBefore 24 = .ok (.lmul, 1) := by decide +kernel
theorem dX0_ranksBefore_25 : decode cX0_ranksBefore 25 = .ok (.lstore 5, 2) := by decide +kernel
theorem dX0_ranksBefore_27 : decode cX0_ranksBefore 27 = .ok (.lload_n 3, 1) := by decide +kernel
theorem dX0_ranksBefore_28 : decode cX0_ranksBefore 28 = .ok (.lload 5, 2) := by decide +kernel
theorem dX0_ranksBefore_30 : decode cX0_ranksBefore 30 = .ok (.lcmp, 1) := by decide +kernel
theorem dX0_ranksBefore_31 : decode cX0_ranksBefore 31 = .ok (.ifCond .gt 15, 3) := by decide +kernel
theorem dX0_ranksBefore_34 : decode cX0_ranksBefore 34 = .ok (.lload_n 3, 1) := by decide +kernel
theorem dX0_ranksBefore_35 : decode cX0_ranksBefore 35 = .ok (.lload 5, 2) := by decide +kernel
theorem dX0_ranksBefore_37 : decode cX0_ranksBefore 37 = .ok (.lcmp, 1) := by decide +kernel
theorem dX0_ranksBefore_38 : decode cX0_ranksBefore 38 = .ok (.ifCond .ne 12, 3) := by decide +kernel
theorem dX0_ranksBefore_41 : decode cX0_ranksBefore 41 = .ok (.iload_n 1, 1) := by decide +kernel
theorem dX0_ranksBefore_42 : decode cX0_ranksBefore 42 = .ok (.iload_n 2, 1) := by decide +kernel
theorem dX0_ranksBefore_43 : decode cX0_ranksBefore 43 = .ok (.if_icmp .ge 7, 3) := by decide +kernel
theorem dX0_ranksBefore_46 : decode cX0_ranksBefore 46 = .ok (.iconst 1, 1) := by decide +kernel
theorem dX0_ranksBefore_47 : decode cX0_ranksBefore 47 = .ok (.goto 4, 3) := by decide +kernel
theorem dX0_ranksBefore_50 : decode cX0_ranksBefore 50 = .ok (.iconst 0, 1) := by decide +kernel
theorem dX0_ranksBefore_51 : decode cX0_ranksBefore 51 = .ok (.ireturn, 1) := by decide +kernel
theorem k_X0_has_32 : aKS mX0_has mX0_isNumber 32 1 := ⟨cb_X0_isNumber, rfl, ml_X0_32, st_X0_isNumber, ⟨Nat.le_of_ble_eq_true rfl, Nat.le_of_ble_eq_true rfl⟩⟩
theorem k_X0_isUp_36 : aKV mX0_isUp mX0_has 36 1 0 := ⟨cb_X0_has, rfl, ml_X0_36, iv_X0_has, sl_X0_has, ⟨_, _, rfl⟩, ⟨Nat.le_of_ble_eq_true rfl, Nat.le_of_ble_eq_true rfl⟩⟩
theorem k_X0_name_36 : aKV mX0_name mX0_has 36 1 0 := ⟨cb_X0_has, rfl, ml_X0_36, iv_X0_has, sl_X0_has, ⟨_, _, rfl⟩, ⟨Nat.le_of_ble_eq_true rfl, Nat.le_of_ble_eq_true rfl⟩⟩
theorem k_X0_weight_36 : aKV mX0_weight mX0_has 36 1 0 := ⟨cb_X0_has, rfl, ml_X0_36, iv_X0_has, sl_X0_has, ⟨_, _, rfl⟩, ⟨Nat.le_of_ble_eq_true rfl, Nat.le_of_ble_eq_true rfl⟩⟩
theorem k_X0_load_36 : aKV mX0_load mX0_has 36 1 0 := ⟨cb_X0_has, rfl, ml_X0_36, iv_X0_has, sl_X0_has, ⟨_, _, rfl⟩, ⟨Nat.le_of_ble_eq_true rfl, Nat.le_of_ble_eq_true rfl⟩⟩
theorem k_X0_ranksBefore_59 : aKV mX0_ranksBefore mX0_load 59 1 0 := ⟨cb_X0_load, rfl, ml_X0_59, iv_X0_load, sl_X0_load, ⟨_, _, rfl⟩, ⟨Nat.le_of_ble_eq_true rfl, Nat.le_of_ble_eq_true rfl⟩⟩
theorem k_X0_ranksBefore_63 : aKV mX0_ranksBefore mX0_weight 63 1 0 := ⟨cb_X0_weight, rfl, ml_X0_63, iv_X0_weight, sl_X0_weight, ⟨_, _, rfl⟩, ⟨Nat.le_of_ble_eq_true rfl, Nat.le_of_ble_eq_true rfl⟩⟩
theorem k_X0_countBefore_39 : aKV mX0_countBefore mX0_isUp 39 1 0 := ⟨cb_X0_isUp, rfl, ml_X0_39, iv_X0_isUp, sl_X0_isUp, ⟨_, _, rfl⟩, ⟨Nat.le_of_ble_eq_true rfl, Nat.le_of_ble_eq_true rfl⟩⟩
theorem k_X0_countBefore_55 : aKV mX0_countBefore mX0_ranksBefore 55 2 0 := ⟨cb_X0_ranksBefore, rfl, ml_X0_55, iv_X0_ranksBefore, sl_X0_ranksBefore, ⟨_, _, rfl⟩, ⟨Nat.le_of_ble_eq_true rfl, Nat.le_of_ble_eq_true rfl⟩⟩
theorem k_X0_ranked_39 : aKV mX0_ranked mX0_isUp 39 1 0 := ⟨cb_X0_isUp, rfl, ml_X0_39, iv_X0_isUp, sl_X0_isUp, ⟨_, _, rfl⟩, ⟨Nat.le_of_ble_eq_true rfl, Nat.le_of_ble_eq_true rfl⟩⟩
theorem k_X0_ranked_52 : aKV mX0_ranked mX0_countBefore 52 1 0 := ⟨cb_X0_countBefore, rfl, ml_X0_52, iv_X0_countBefore, sl_X0_countBefore, ⟨_, _, rfl⟩, ⟨Nat.le_of_ble_eq_true rfl, Nat.le_of_ble_eq_true rfl⟩⟩
theorem k_X0_size_36 : aKV mX0_size mX0_has 36 1 0 := ⟨cb_X0_has, rfl, ml_X0_36, iv_X0_has, sl_X0_has, ⟨_, _, rfl⟩, ⟨Nat.le_of_ble_eq_true rfl, Nat.le_of_ble_eq_true rfl⟩⟩
theorem k_X0_upCount_39 : aKV mX0_upCount mX0_isUp 39 1 0 := ⟨cb_X0_isUp, rfl, ml_X0_39, iv_X0_isUp, sl_X0_isUp, ⟨_, _, rfl⟩, ⟨Nat.le_of_ble_eq_true rfl, Nat.le_of_ble_eq_true rfl⟩⟩
theorem k_X0_weightSum_39 : aKV mX0_weightSum mX0_isUp 39 1 0 := ⟨cb_X0_isUp, rfl, ml_X0_39, iv_X0_isUp, sl_X0_isUp, ⟨_, _, rfl⟩, ⟨Nat.le_of_ble_eq_true rfl, Nat.le_of_ble_eq_true rfl⟩⟩
theorem k_X0_greatestWeightWithout_39 : aKV mX0_greatestWeightWithout mX0_isUp 39 1 0 := ⟨cb_X0_isUp, rfl, ml_X0_39, iv_X0_isUp, sl_X0_isUp, ⟨_, _, rfl⟩, ⟨Nat.le_of_ble_eq_true rfl, Nat.le_of_ble_eq_true rfl⟩⟩
theorem k_X0_lowestFree_42 : aKV mX0_lowestFree mX0_find 42 1 0 := ⟨cb_X0_find, rfl, ml_X0_42, iv_X0_find, sl_X0_find, ⟨_, _, rfl⟩, ⟨Nat.le_of_ble_eq_true rfl, Nat.le_of_ble_eq_true rfl⟩⟩
/-! ===== Fleet ===== -/
section FLEET
variable {l : Launch} {X : aX} {nm wt up : Nat → Int32} {ld : Nat → Int64}
theorem c_X0_isNumber (s : Int32) : aRd l X mX0_isNumber [] [.int s] [] (.int (bI (fNm s))) := by
  refine aMt.of (by decide) rfl (Nat.le_of_ble_eq_true rfl) ?_
  refine a_iload_n dX0_isNumber_0 rfl ?_
  refine a_if_lt 14 dX0_isNumber_1 (by decide) (fun c1 => ?_) (fun c1 => ?_)
  · refine a_iconst 0 dX0_isNumber_14 (by decide) ?_
    refine a_zret rfl rfl dX0_isNumber_15 (by decide) (by decide) ?_
    exact ⟨by simp [fNm, c1, bI], rfl⟩
  · refine a_iload_n dX0_isNumber_4 rfl ?_
    refine a_bipush 10 dX0_isNumber_5 (by decide) ?_
    refine a_icmp_ge 14 dX0_isNumber_7 (by decide) (fun c7 => ?_) (fun c7 => ?_)
    · refine a_iconst 0 dX0_isNumber_14 (by decide) ?_
      refine a_zret rfl rfl dX0_isNumber_15 (by decide) (by decide) ?_
      exact ⟨by simp [fNm, c1, c7, bI], rfl⟩
    · refine a_iconst 1 dX0_isNumber_10 (by decide) ?_
      refine a_goto 15 dX0_isNumber_11 (by decide) ?_
      refine a_zret rfl rfl dX0_isNumber_15 (by decide) (by decide) ?_
      exact ⟨by simp [fNm, c1, c7, bI], rfl⟩
theorem c_X0_has (s : Int32) : aRd l X mX0_has rs5 [.ref 0, .int s] (aFt nm wt up ld) (.int (bI (fHs nm s))) := by
  refine aMt.of (by decide) rfl (Nat.le_of_ble_eq_true rfl) ?_
  refine a_iload_n dX0_has_0 rfl ?_
  refine a_SiR [] k_X0_has_32 (c_X0_isNumber s) dX0_has_1 rfl rfl rfl rfl rfl (Nat.le_of_ble_eq_true rfl) ⟨Nat.le_of_ble_eq_true rfl, Nat.le_of_ble_eq_true rfl⟩ ⟨rfl, rfl⟩ ?_
  refine a_if_eq 20 dX0_has_4 (by decide) (fun c4 => ?_) (fun c4 => ?_)
  · refine a_iconst 0 dX0_has_20 (by decide) ?_
    refine a_zret rfl rfl dX0_has_21 (by decide) (by decide) ?_
    exact ⟨by simp [fHs, bI_0 c4, bI], rfl⟩
  · refine a_aload_n dX0_has_7 rfl ?_
    refine a_get fl_X0_9 dX0_has_8 rfl rfl ?_
    refine a_iload_n dX0_has_11 rfl ?_
    refine a_iald dX0_has_12 rfl (fNm_in (bI_1 c4)) ?_
    refine a_if_eq 20 dX0_has_13 (by decide) (fun c13 => ?_) (fun c13 => ?_)
    · refine a_iconst 0 dX0_has_20 (by decide) ?_
      refine a_zret rfl rfl dX0_has_21 (by decide) (by decide) ?_
      exact ⟨by simp [fHs, bI_1 c4, c13, bI], rfl⟩
    · refine a_iconst 1 dX0_has_16 (by decide) ?_
      refine a_goto 21 dX0_has_17 (by decide) ?_
      refine a_zret rfl rfl dX0_has_21 (by decide) (by decide) ?_
      exact ⟨by simp [fHs, bI_1 c4, c13, bI], rfl⟩
theorem c_X0_isUp (s : Int32) : aRd l X mX0_isUp rs5 [.ref 0, .int s] (aFt nm wt up ld) (.int (bI (fUp nm up s))) := by
  refine aMt.of (by decide) rfl (Nat.le_of_ble_eq_true rfl) ?_
  refine a_aload_n dX0_isUp_0 rfl ?_
  refine a_iload_n dX0_isUp_1 rfl ?_
  refine a_ViR [0, 1, 2, 3, 4] k_X0_isUp_36 (c_X0_has (nm := nm) (wt := wt) (up := up) (ld := ld) s) dX0_isUp_2 rfl rfl rfl rfl rfl rfl (Nat.le_of_ble_eq_true rfl) ⟨Nat.le_of_ble_eq_true rfl, Nat.le_of_ble_eq_true rfl⟩ ⟨rfl, rfl⟩ ?_
  refine a_if_eq 21 dX0_isUp_5 (by decide) (fun c5 => ?_) (fun c5 => ?_)
  · refine a_iconst 0 dX0_isUp_21 (by decide) ?_
    refine a_zret rfl rfl dX0_isUp_22 (by decide) (by decide) ?_
    exact ⟨by simp [fUp, bI_0 c5, bI], rfl⟩
  · refine a_aload_n dX0_isUp_8 rfl ?_
    refine a_get fl_X0_18 dX0_isUp_9 rfl rfl ?_
    refine a_iload_n dX0_isUp_12 rfl ?_
    refine a_zald dX0_isUp_13 rfl (fHs_in (bI_1 c5)) ?_
    refine a_if_eq 21 dX0_isUp_14 (by decide) (fun c14 => ?_) (fun c14 => ?_)
    · refine a_iconst 0 dX0_isUp_21 (by decide) ?_
      refine a_zret rfl rfl dX0_isUp_22 (by decide) (by decide) ?_
      exact ⟨by simp [fUp, bI_1 c5, c14, bI], rfl⟩
    · refine a_iconst 1 dX0_isUp_17 (by decide) ?_
      refine a_goto 22 dX0_isUp_18 (by decide) ?_
      refine a_zret rfl rfl dX0_isUp_22 (by decide) (by decide) ?_
      exact ⟨by simp [fUp, bI_1 c5, c14, bI], rfl⟩
theorem c_X0_name (s : Int32) : aRd l X mX0_name rs5 [.ref 0, .int s] (aFt nm wt up ld) (.int (if fHs nm s then nm s.toNatClampNeg else 0)) := by
  refine aMt.of (by decide) rfl (Nat.le_of_ble_eq_true rfl) ?_
  refine a_aload_n dX0_name_0 rfl ?_
  refine a_iload_n dX0_name_1 rfl ?_
  refine a_ViR [0, 1, 2, 3, 4] k_X0_name_36 (c_X0_has (nm := nm) (wt := wt) (up := up) (ld := ld) s) dX0_name_2 rfl rfl rfl rfl rfl rfl (Nat.le_of_ble_eq_true rfl) ⟨Nat.le_of_ble_eq_true rfl, Nat.le_of_ble_eq_true rfl⟩ ⟨rfl, rfl⟩ ?_
  refine a_if_eq 17 dX0_name_5 (by decide) (fun c5 => ?_) (fun c5 => ?_)
  · refine a_iconst 0 dX0_name_17 (by decide) ?_
    refine a_iret rfl dX0_name_18 (by decide) (by decide) ?_
    exact ⟨by simp [bI_0 c5], rfl⟩
  · refine a_aload_n dX0_name_8 rfl ?_
    refine a_get fl_X0_9 dX0_name_9 rfl rfl ?_
    refine a_iload_n dX0_name_12 rfl ?_
    refine a_iald dX0_name_13 rfl (fHs_in (bI_1 c5)) ?_
    refine a_goto 18 dX0_name_14 (by decide) ?_
    refine a_iret rfl dX0_name_18 (by decide) (by decide) ?_
    exact ⟨by simp [bI_1 c5], rfl⟩
theorem c_X0_weight (s : Int32) : aRd l X mX0_weight rs5 [.ref 0, .int s] (aFt nm wt up ld) (.int (if fHs nm s then wt s.toNatClampNeg else 0)) := by
  refine aMt.of (by decide) rfl (Nat.le_of_ble_eq_true rfl) ?_
  refine a_aload_n dX0_weight_0 rfl ?_
  refine a_iload_n dX0_weight_1 rfl ?_
  refine a_ViR [0, 1, 2, 3, 4] k_X0_weight_36 (c_X0_has (nm := nm) (wt := wt) (up := up) (ld := ld) s) dX0_weight_2 rfl rfl rfl rfl rfl rfl (Nat.le_of_ble_eq_true rfl) ⟨Nat.le_of_ble_eq_true rfl, Nat.le_of_ble_eq_true rfl⟩ ⟨rfl, rfl⟩ ?_
  refine a_if_eq 17 dX0_weight_5 (by decide) (fun c5 => ?_) (fun c5 => ?_)
  · refine a_iconst 0 dX0_weight_17 (by decide) ?_
    refine a_iret rfl dX0_weight_18 (by decide) (by decide) ?_
    exact ⟨by simp [bI_0 c5], rfl⟩
  · refine a_aload_n dX0_weight_8 rfl ?_
    refine a_get fl_X0_15 dX0_weight_9 rfl rfl ?_
    refine a_iload_n dX0_weight_12 rfl ?_
    refine a_iald dX0_weight_13 rfl (fHs_in (bI_1 c5)) ?_
    refine a_goto 18 dX0_weight_14 (by decide) ?_
    refine a_iret rfl dX0_weight_18 (by decide) (by decide) ?_
    exact ⟨by simp [bI_1 c5], rfl⟩
theorem c_X0_load (s : Int32) : aRd l X mX0_load rs5 [.ref 0, .int s] (aFt nm wt up ld) (.long (if fHs nm s then ld s.toNatClampNeg else 0)) := by
  refine aMt.of (by decide) rfl (Nat.le_of_ble_eq_true rfl) ?_
  refine a_aload_n dX0_load_0 rfl ?_
  refine a_iload_n dX0_load_1 rfl ?_
  refine a_ViR [0, 1, 2, 3, 4] k_X0_load_36 (c_X0_has (nm := nm) (wt := wt) (up := up) (ld := ld) s) dX0_load_2 rfl rfl rfl rfl rfl rfl (Nat.le_of_ble_eq_true rfl) ⟨Nat.le_of_ble_eq_true rfl, Nat.le_of_ble_eq_true rfl⟩ ⟨rfl, rfl⟩ ?_
  refine a_if_eq 17 dX0_load_5 (by decide) (fun c5 => ?_) (fun c5 => ?_)
  · refine a_lconst 0 dX0_load_17 (by decide) ?_
    refine a_lret rfl dX0_load_18 (by decide) (by decide) ?_
    exact ⟨by simp [bI_0 c5], rfl⟩
  · refine a_aload_n dX0_load_8 rfl ?_
    refine a_get fl_X0_22 dX0_load_9 rfl rfl ?_
    refine a_iload_n dX0_load_12 rfl ?_
    refine a_lald dX0_load_13 rfl (fHs_in (bI_1 c5)) ?_
    refine a_goto 18 dX0_load_14 (by decide) ?_
    refine a_lret rfl dX0_load_18 (by decide) (by decide) ?_
    exact ⟨by simp [bI_1 c5], rfl⟩

/-- what ranks, as the class computes it -/
def fLd (nm : Nat → Int32) (ld : Nat → Int64) (s : Int32) : Int64 := if fHs nm s then ld s.toNatClampNeg else 0
def fWt (nm wt : Nat → Int32) (s : Int32) : Int32 := if fHs nm s then wt s.toNatClampNeg else 0
def fRk (nm wt : Nat → Int32) (ld : Nat → Int64) (a b : Int32) : Bool :=
  decide (0 < lg_cmp (fLd nm ld a * (fWt nm wt b).toInt64) (fLd nm ld b * (fWt nm wt a).toInt64)) || (decide (lg_cmp (fLd nm ld a * (fWt nm wt b).toInt64) (fLd nm ld b * (fWt nm wt a).toInt64) = 0) && decide (¬ b ≤ a))
theorem c_X0_ranksBefore (a b : Int32) : aRd l X mX0_ranksBefore rs5 [.ref 0, .int a, .int b] (aFt nm wt up ld) (.int (bI (fRk nm wt ld a b))) := by
  refine aMt.of (by decide) rfl (Nat.le_of_ble_eq_true rfl) ?_
  refine a_aload_n dX0_ranksBefore_0 rfl ?_
  refine a_iload_n dX0_ranksBefore_1 rfl ?_
  refine a_VlR [0, 1, 2, 3, 4] k_X0_ranksBefore_59 (c_X0_load (nm := nm) (wt := wt) (up := up) (ld := ld) a) dX0_ranksBefore_2 rfl rfl rfl rfl rfl rfl (Nat.le_of_ble_eq_true rfl) ⟨Nat.le_of_ble_eq_true rfl, Nat.le_of_ble_eq_true rfl⟩ ⟨rfl, rfl⟩ ?_
  refine a_aload_n dX0_ranksBefore_5 rfl ?_
  refine a_iload_n dX0_ranksBefore_6 rfl ?_
  refine a_ViR [0, 1, 2, 3, 4] k_X0_ranksBefore_63 (c_X0_weight (nm := nm) (wt := wt) (up := up) (ld := ld) b) dX0_ranksBefore_7 rfl rfl rfl rfl rfl rfl (Nat.le_of_ble_eq_true rfl) ⟨Nat.le_of_ble_eq_true rfl, Nat.le_of_ble_eq_true rfl⟩ ⟨rfl, rfl⟩ ?_
  refine a_i2l dX0_ranksBefore_10 ?_
  refine a_lmul dX0_ranksBefore_11 ?_
  refine a_lstore_n dX0_ranksBefore_12 (by decide) rfl ?_
  refine a_aload_n dX0_ranksBefore_13 rfl ?_
  refine a_iload_n dX0_ranksBefore_14 rfl ?_
  refine a_VlR [0, 1, 2, 3, 4] k_X0_ranksBefore_59 (c_X0_load (nm := nm) (wt := wt) (up := up) (ld := ld) b) dX0_ranksBefore_15 rfl rfl rfl rfl rfl rfl (Nat.le_of_ble_eq_true rfl) ⟨Nat.le_of_ble_eq_true rfl, Nat.le_of_ble_eq_true rfl⟩ ⟨rfl, rfl⟩ ?_
  refine a_aload_n dX0_ranksBefore_18 rfl ?_
  refine a_iload_n dX0_ranksBefore_19 rfl ?_
  refine a_ViR [0, 1, 2, 3, 4] k_X0_ranksBefore_63 (c_X0_weight (nm := nm) (wt := wt) (up := up) (ld := ld) a) dX0_ranksBefore_20 rfl rfl rfl rfl rfl rfl (Nat.le_of_ble_eq_true rfl) ⟨Nat.le_of_ble_eq_true rfl, Nat.le_of_ble_eq_true rfl⟩ ⟨rfl, rfl⟩ ?_
  refine a_i2l dX0_ranksBefore_23 ?_
  refine a_lmul dX0_ranksBefore_24 ?_
  refine a_lstore dX0_ranksBefore_25 (by decide) rfl ?_
  refine a_lload_n dX0_ranksBefore_27 rfl ?_
  refine a_lload dX0_ranksBefore_28 rfl ?_
  refine a_lcmp dX0_ranksBefore_30 ?_
  refine a_if_gt 46 dX0_ranksBefore_31 (by decide) (fun c31 => ?_) (fun c31 => ?_)
  · refine a_iconst 1 dX0_ranksBefore_46 (by decide) ?_
    refine a_goto 51 dX0_ranksBefore_47 (by decide) ?_
    refine a_zret rfl rfl dX0_ranksBefore_51 (by decide) (by decide) ?_
    exact ⟨by simp [fRk, fLd, fWt, c31, bI], rfl⟩
  · refine a_lload_n dX0_ranksBefore_34 rfl ?_
    refine a_lload dX0_ranksBefore_35 rfl ?_
    refine a_lcmp dX0_ranksBefore_37 ?_
    refine a_if_ne 50 dX0_ranksBefore_38 (by decide) (fun c38 => ?_) (fun c38 => ?_)
    · refine a_iconst 0 dX0_ranksBefore_50 (by decide) ?_
      refine a_zret rfl rfl dX0_ranksBefore_51 (by decide) (by decide) ?_
      exact ⟨by simp [fRk, fLd, fWt, c31, c38, bI], rfl⟩
    · refine a_iload_n dX0_ranksBefore_41 rfl ?_
      refine a_iload_n dX0_ranksBefore_42 rfl ?_
      refine a_icmp_ge 50 dX0_ranksBefore_43 (by decide) (fun c43 => ?_) (fun c43 => ?_)
      · refine a_iconst 0 dX0_ranksBefore_50 (by decide) ?_
        refine a_zret rfl rfl dX0_ranksBefore_51 (by decide) (by decide) ?_
        exact ⟨by simp [fRk, fLd, fWt, c31, c43, bI], rfl⟩
      · refine a_iconst 1 dX0_ranksBefore_46 (by decide) ?_
        refine a_goto 51 dX0_ranksBefore_47 (by decide) ?_
        refine a_zret rfl rfl dX0_ranksBefore_51 (by decide) (by decide) ?_
        exact ⟨by simp [fRk, fLd, fWt, c31, c38, c43, bI], rfl⟩
def fCb (nm wt up : Nat → Int32) (ld : Nat → Int64) (s : Int32) : Int32 := aLp (fun j c => if fUp nm up (nI j) && fRk nm wt ld (nI j) s then c + 1 else c) 10 0 0
theorem c_X0_countBefore (s : Int32) : aRd l X mX0_countBefore rs5 [.ref 0, .int s] (aFt nm wt up ld) (.int (fCb nm wt up ld s)) := by
  refine aMt.of (by decide) rfl (Nat.le_of_ble_eq_true rfl) ?_
  generalize hr : fCb nm wt up ld s = r
  refine a_iconst 0 dX0_countBefore_0 (by decide) ?_
  refine a_istore_n dX0_countBefore_1 (by decide) rfl ?_
  refine a_iconst 0 dX0_countBefore_2 (by decide) ?_
  refine a_istore_n dX0_countBefore_3 (by decide) rfl ?_
  have lp : ∀ (k j : Nat) (a : Int32), j + k = 10 → aLp (fun j c => if fUp nm up (nI j) && fRk nm wt ld (nI j) s then c + 1 else c) k j a = r → aJ l X mX0_countBefore (aEd X mX0_countBefore rs5 (fun o h' => o = .inl (some (.int r)) ∧ h' = aFt nm wt up ld)) 0 0 4 [.ref 0, .int s, .int a, .int (nI j)] [] (aFt nm wt up ld) := by
    intro k
    induction k with
    | zero =>
      intro j a hj hr
      obtain rfl : j = 10 := by omega
      refine a_iload_n dX0_countBefore_4 rfl ?_
      refine a_bipush 10 dX0_countBefore_5 (by decide) ?_
      refine a_icmp_ge 36 dX0_countBefore_7 (by decide) (fun _ => ?_) (fun z => absurd ge10_t z)
      refine a_iload_n dX0_countBefore_36 rfl ?_
      refine a_iret rfl dX0_countBefore_37 (by decide) (by decide) ?_
      exact ⟨by rw [← hr]; rfl, rfl⟩
    | succ k ih =>
      intro j a hj hr
      refine a_iload_n dX0_countBefore_4 rfl ?_
      refine a_bipush 10 dX0_countBefore_5 (by decide) ?_
      refine a_icmp_ge 36 dX0_countBefore_7 (by decide) (fun z => absurd z (ge10_f (by omega))) (fun _ => ?_)
      refine a_aload_n dX0_countBefore_10 rfl ?_
      refine a_iload_n dX0_countBefore_11 rfl ?_
      refine a_ViR [0, 1, 2, 3, 4] k_X0_countBefore_39 (c_X0_isUp (nm := nm) (wt := wt) (up := up) (ld := ld) (nI j)) dX0_countBefore_12 rfl rfl rfl rfl rfl rfl (Nat.le_of_ble_eq_true rfl) ⟨Nat.le_of_ble_eq_true rfl, Nat.le_of_ble_eq_true rfl⟩ ⟨rfl, rfl⟩ ?_
      refine a_if_eq 30 dX0_countBefore_15 (by decide) (fun c15 => ?_) (fun c15 => ?_)
      · refine a_iinc (nI (j + 1)) dX0_countBefore_30 rfl (nI_1 _) (by decide) rfl ?_
        refine a_goto 4 dX0_countBefore_33 (by decide) ?_
        exact ih (j + 1) a (by omega) (by rw [← hr]; simp [aLp, bI_0 c15])
      · refine a_aload_n dX0_countBefore_18 rfl ?_
        refine a_iload_n dX0_countBefore_19 rfl ?_
        refine a_iload_n dX0_countBefore_20 rfl ?_
        refine a_ViR [0, 1, 2, 3, 4] k_X0_countBefore_55 (c_X0_ranksBefore (nm := nm) (wt := wt) (up := up) (ld := ld) (nI j) s) dX0_countBefore_21 rfl rfl rfl rfl rfl rfl (Nat.le_of_ble_eq_true rfl) ⟨Nat.le_of_ble_eq_true rfl, Nat.le_of_ble_eq_true rfl⟩ ⟨rfl, rfl⟩ ?_
        refine a_if_eq 30 dX0_countBefore_24 (by decide) (fun c24 => ?_) (fun c24 => ?_)
        · refine a_iinc (nI (j + 1)) dX0_countBefore_30 rfl (nI_1 _) (by decide) rfl ?_
          refine a_goto 4 dX0_countBefore_33 (by decide) ?_
          exact ih (j + 1) a (by omega) (by rw [← hr]; simp [aLp, bI_0 c24])
        · refine a_iinc (a + 1) dX0_countBefore_27 rfl rfl (by decide) rfl ?_
          refine a_iinc (nI (j + 1)) dX0_countBefore_30 rfl (nI_1 _) (by decide) rfl ?_
          refine a_goto 4 dX0_countBefore_33 (by decide) ?_
          exact ih (j + 1) (a + 1) (by omega) (by rw [← hr]; simp [aLp, bI_1 c15, bI_1 c24])
  exact lp 10 0 0 rfl hr
def fRd (nm wt up : Nat → Int32) (ld : Nat → Int64) (p : Int32) : Int32 := aFd (fun j => fUp nm up (nI j) && decide (fCb nm wt up ld (nI j) = p)) 10 0
theorem c_X0_ranked (p : Int32) : aRd l X mX0_ranked rs5 [.ref 0, .int p] (aFt nm wt up ld) (.int (fRd nm wt up ld p)) := by
  refine aMt.of (by decide) rfl (Nat.le_of_ble_eq_true rfl) ?_
  generalize hr : fRd nm wt up ld p = r
  refine a_iconst 0 dX0_ranked_0 (by decide) ?_
  refine a_istore_n dX0_ranked_1 (by decide) rfl ?_
  have lp : ∀ (k j : Nat), j + k = 10 → aFd (fun j => fUp nm up (nI j) && decide (fCb nm wt up ld (nI j) = p)) k j = r → aJ l X mX0_ranked (aEd X mX0_ranked rs5 (fun o h' => o = .inl (some (.int r)) ∧ h' = aFt nm wt up ld)) 0 0 2 [.ref 0, .int p, .int (nI j)] [] (aFt nm wt up ld) := by
    intro k
    induction k with
    | zero =>
      intro j hj hr
      obtain rfl : j = 10 := by omega
      refine a_iload_n dX0_ranked_2 rfl ?_
      refine a_bipush 10 dX0_ranked_3 (by decide) ?_
      refine a_icmp_ge 33 dX0_ranked_5 (by decide) (fun _ => ?_) (fun z => absurd ge10_t z)
      refine a_iconst (-1) dX0_ranked_33 (by decide) ?_
      refine a_iret rfl dX0_ranked_34 (by decide) (by decide) ?_
      exact ⟨by rw [← hr]; rfl, rfl⟩
    | succ k ih =>
      intro j hj hr
      refine a_iload_n dX0_ranked_2 rfl ?_
      refine a_bipush 10 dX0_ranked_3 (by decide) ?_
      refine a_icmp_ge 33 dX0_ranked_5 (by decide) (fun z => absurd z (ge10_f (by omega))) (fun _ => ?_)
      refine a_aload_n dX0_ranked_8 rfl ?_
      refine a_iload_n dX0_ranked_9 rfl ?_
      refine a_ViR [0, 1, 2, 3, 4] k_X0_ranked_39 (c_X0_isUp (nm := nm) (wt := wt) (up := up) (ld := ld) (nI j)) dX0_ranked_10 rfl rfl rfl rfl rfl rfl (Nat.le_of_ble_eq_true rfl) ⟨Nat.le_of_ble_eq_true rfl, Nat.le_of_ble_eq_true rfl⟩ ⟨rfl, rfl⟩ ?_
      refine a_if_eq 27 dX0_ranked_13 (by decide) (fun c13 => ?_) (fun c13 => ?_)
      · refine a_iinc (nI (j + 1)) dX0_ranked_27 rfl (nI_1 _) (by decide) rfl ?_
        refine a_goto 2 dX0_ranked_30 (by decide) ?_
        exact ih (j + 1) (by omega) (by rw [← hr]; simp [aFd, bI_0 c13])
      · refine a_aload_n dX0_ranked_16 rfl ?_
        refine a_iload_n dX0_ranked_17 rfl ?_
        refine a_ViR [0, 1, 2, 3, 4] k_X0_ranked_52 (c_X0_countBefore (nm := nm) (wt := wt) (up := up) (ld := ld) (nI j)) dX0_ranked_18 rfl rfl rfl rfl rfl rfl (Nat.le_of_ble_eq_true rfl) ⟨Nat.le_of_ble_eq_true rfl, Nat.le_of_ble_eq_true rfl⟩ ⟨rfl, rfl⟩ ?_
        refine a_iload_n dX0_ranked_21 rfl ?_
        refine a_icmp_ne 27 dX0_ranked_22 (by decide) (fun c22 => ?_) (fun c22 => ?_)
        · refine a_iinc (nI (j + 1)) dX0_ranked_27 rfl (nI_1 _) (by decide) rfl ?_
          refine a_goto 2 dX0_ranked_30 (by decide) ?_
          exact ih (j + 1) (by omega) (by rw [← hr]; simp [aFd, c22])
        · refine a_iload_n dX0_ranked_25 rfl ?_
          refine a_iret rfl dX0_ranked_26 (by decide) (by decide) ?_
          exact ⟨by rw [← hr]; simp [aFd, bI_1 c13, c22], rfl⟩
  exact lp 10 0 rfl hr
def fSz (nm : Nat → Int32) : Int32 := aLp (fun j c => if fHs nm (nI j) then c + 1 else c) 10 0 0
theorem c_X0_size : aRd l X mX0_size rs5 [.ref 0] (aFt nm wt up ld) (.int (fSz nm)) := by
  refine aMt.of (by decide) rfl (Nat.le_of_ble_eq_true rfl) ?_
  generalize hr : fSz nm = r
  refine a_iconst 0 dX0_size_0 (by decide) ?_
  refine a_istore_n dX0_size_1 (by decide) rfl ?_
  refine a_iconst 0 dX0_size_2 (by decide) ?_
  refine a_istore_n dX0_size_3 (by decide) rfl ?_
  have lp : ∀ (k j : Nat) (a : Int32), j + k = 10 → aLp (fun j c => if fHs nm (nI j) then c + 1 else c) k j a = r → aJ l X mX0_size (aEd X mX0_size rs5 (fun o h' => o = .inl (some (.int r)) ∧ h' = aFt nm wt up ld)) 0 0 4 [.ref 0, .int a, .int (nI j)] [] (aFt nm wt up ld) := by
    intro k
    induction k with
    | zero =>
      intro j a hj hr
      obtain rfl : j = 10 := by omega
      refine a_iload_n dX0_size_4 rfl ?_
      refine a_bipush 10 dX0_size_5 (by decide) ?_
      refine a_icmp_ge 27 dX0_size_7 (by decide) (fun _ => ?_) (fun z => absurd ge10_t z)
      refine a_iload_n dX0_size_27 rfl ?_
      refine a_iret rfl dX0_size_28 (by decide) (by decide) ?_
      exact ⟨by rw [← hr]; rfl, rfl⟩
    | succ k ih =>
      intro j a hj hr
      refine a_iload_n dX0_size_4 rfl ?_
      refine a_bipush 10 dX0_size_5 (by decide) ?_
      refine a_icmp_ge 27 dX0_size_7 (by decide) (fun z => absurd z (ge10_f (by omega))) (fun _ => ?_)
      refine a_aload_n dX0_size_10 rfl ?_
      refine a_iload_n dX0_size_11 rfl ?_
      refine a_ViR [0, 1, 2, 3, 4] k_X0_size_36 (c_X0_has (nm := nm) (wt := wt) (up := up) (ld := ld) (nI j)) dX0_size_12 rfl rfl rfl rfl rfl rfl (Nat.le_of_ble_eq_true rfl) ⟨Nat.le_of_ble_eq_true rfl, Nat.le_of_ble_eq_true rfl⟩ ⟨rfl, rfl⟩ ?_
      refine a_if_eq 21 dX0_size_15 (by decide) (fun c15 => ?_) (fun c15 => ?_)
      · refine a_iinc (nI (j + 1)) dX0_size_21 rfl (nI_1 _) (by decide) rfl ?_
        refine a_goto 4 dX0_size_24 (by decide) ?_
        exact ih (j + 1) a (by omega) (by rw [← hr]; simp [aLp, bI_0 c15])
      · refine a_iinc (a + 1) dX0_size_18 rfl rfl (by decide) rfl ?_
        refine a_iinc (nI (j + 1)) dX0_size_21 rfl (nI_1 _) (by decide) rfl ?_
        refine a_goto 4 dX0_size_24 (by decide) ?_
        exact ih (j + 1) (a + 1) (by omega) (by rw [← hr]; simp [aLp, bI_1 c15])
  exact lp 10 0 0 rfl hr
def fUc (nm up : Nat → Int32) : Int32 := aLp (fun j c => if fUp nm up (nI j) then c + 1 else c) 10 0 0
theorem c_X0_upCount : aRd l X mX0_upCount rs5 [.ref 0] (aFt nm wt up ld) (.int (fUc nm up)) := by
  refine aMt.of (by decide) rfl (Nat.le_of_ble_eq_true rfl) ?_
  generalize hr : fUc nm up = r
  refine a_iconst 0 dX0_upCount_0 (by decide) ?_
  refine a_istore_n dX0_upCount_1 (by decide) rfl ?_
  refine a_iconst 0 dX0_upCount_2 (by decide) ?_
  refine a_istore_n dX0_upCount_3 (by decide) rfl ?_
  have lp : ∀ (k j : Nat) (a : Int32), j + k = 10 → aLp (fun j c => if fUp nm up (nI j) then c + 1 else c) k j a = r → aJ l X mX0_upCount (aEd X mX0_upCount rs5 (fun o h' => o = .inl (some (.int r)) ∧ h' = aFt nm wt up ld)) 0 0 4 [.ref 0, .int a, .int (nI j)] [] (aFt nm wt up ld) := by
    intro k
    induction k with
    | zero =>
      intro j a hj hr
      obtain rfl : j = 10 := by omega
      refine a_iload_n dX0_upCount_4 rfl ?_
      refine a_bipush 10 dX0_upCount_5 (by decide) ?_
      refine a_icmp_ge 27 dX0_upCount_7 (by decide) (fun _ => ?_) (fun z => absurd ge10_t z)
      refine a_iload_n dX0_upCount_27 rfl ?_
      refine a_iret rfl dX0_upCount_28 (by decide) (by decide) ?_
      exact ⟨by rw [← hr]; rfl, rfl⟩
    | succ k ih =>
      intro j a hj hr
      refine a_iload_n dX0_upCount_4 rfl ?_
      refine a_bipush 10 dX0_upCount_5 (by decide) ?_
      refine a_icmp_ge 27 dX0_upCount_7 (by decide) (fun z => absurd z (ge10_f (by omega))) (fun _ => ?_)
      refine a_aload_n dX0_upCount_10 rfl ?_
      refine a_iload_n dX0_upCount_11 rfl ?_
      refine a_ViR [0, 1, 2, 3, 4] k_X0_upCount_39 (c_X0_isUp (nm := nm) (wt := wt) (up := up) (ld := ld) (nI j)) dX0_upCount_12 rfl rfl rfl rfl rfl rfl (Nat.le_of_ble_eq_true rfl) ⟨Nat.le_of_ble_eq_true rfl, Nat.le_of_ble_eq_true rfl⟩ ⟨rfl, rfl⟩ ?_
      refine a_if_eq 21 dX0_upCount_15 (by decide) (fun c15 => ?_) (fun c15 => ?_)
      · refine a_iinc (nI (j + 1)) dX0_upCount_21 rfl (nI_1 _) (by decide) rfl ?_
        refine a_goto 4 dX0_upCount_24 (by decide) ?_
        exact ih (j + 1) a (by omega) (by rw [← hr]; simp [aLp, bI_0 c15])
      · refine a_iinc (a + 1) dX0_upCount_18 rfl rfl (by decide) rfl ?_
        refine a_iinc (nI (j + 1)) dX0_upCount_21 rfl (nI_1 _) (by decide) rfl ?_
        refine a_goto 4 dX0_upCount_24 (by decide) ?_
        exact ih (j + 1) (a + 1) (by omega) (by rw [← hr]; simp [aLp, bI_1 c15])
  exact lp 10 0 0 rfl hr
def fWs (nm wt up : Nat → Int32) : Int32 := aLp (fun j c => if fUp nm up (nI j) then c + wt j else c) 10 0 0
theorem c_X0_weightSum : aRd l X mX0_weightSum rs5 [.ref 0] (aFt nm wt up ld) (.int (fWs nm wt up)) := by
  refine aMt.of (by decide) rfl (Nat.le_of_ble_eq_true rfl) ?_
  generalize hr : fWs nm wt up = r
  refine a_iconst 0 dX0_weightSum_0 (by decide) ?_
  refine a_istore_n dX0_weightSum_1 (by decide) rfl ?_
  refine a_iconst 0 dX0_weightSum_2 (by decide) ?_
  refine a_istore_n dX0_weightSum_3 (by decide) rfl ?_
  have lp : ∀ (k j : Nat) (a : Int32), j + k = 10 → aLp (fun j c => if fUp nm up (nI j) then c + wt j else c) k j a = r → aJ l X mX0_weightSum (aEd X mX0_weightSum rs5 (fun o h' => o = .inl (some (.int r)) ∧ h' = aFt nm wt up ld)) 0 0 4 [.ref 0, .int a, .int (nI j)] [] (aFt nm wt up ld) := by
    intro k
    induction k with
    | zero =>
      intro j a hj hr
      obtain rfl : j = 10 := by omega
      refine a_iload_n dX0_weightSum_4 rfl ?_
      refine a_bipush 10 dX0_weightSum_5 (by decide) ?_
      refine a_icmp_ge 33 dX0_weightSum_7 (by decide) (fun _ => ?_) (fun z => absurd ge10_t z)
      refine a_iload_n dX0_weightSum_33 rfl ?_
      refine a_iret rfl dX0_weightSum_34 (by decide) (by decide) ?_
      exact ⟨by rw [← hr]; rfl, rfl⟩
    | succ k ih =>
      intro j a hj hr
      refine a_iload_n dX0_weightSum_4 rfl ?_
      refine a_bipush 10 dX0_weightSum_5 (by decide) ?_
      refine a_icmp_ge 33 dX0_weightSum_7 (by decide) (fun z => absurd z (ge10_f (by omega))) (fun _ => ?_)
      refine a_aload_n dX0_weightSum_10 rfl ?_
      refine a_iload_n dX0_weightSum_11 rfl ?_
      refine a_ViR [0, 1, 2, 3, 4] k_X0_weightSum_39 (c_X0_isUp (nm := nm) (wt := wt) (up := up) (ld := ld) (nI j)) dX0_weightSum_12 rfl rfl rfl rfl rfl rfl (Nat.le_of_ble_eq_true rfl) ⟨Nat.le_of_ble_eq_true rfl, Nat.le_of_ble_eq_true rfl⟩ ⟨rfl, rfl⟩ ?_
      refine a_if_eq 27 dX0_weightSum_15 (by decide) (fun c15 => ?_) (fun c15 => ?_)
      · refine a_iinc (nI (j + 1)) dX0_weightSum_27 rfl (nI_1 _) (by decide) rfl ?_
        refine a_goto 4 dX0_weightSum_30 (by decide) ?_
        exact ih (j + 1) a (by omega) (by rw [← hr]; simp [aLp, bI_0 c15])
      · refine a_iload_n dX0_weightSum_18 rfl ?_
        refine a_aload_n dX0_weightSum_19 rfl ?_
        refine a_get fl_X0_15 dX0_weightSum_20 rfl rfl ?_
        refine a_iload_n dX0_weightSum_23 rfl ?_
        refine a_iald dX0_weightSum_24 rfl (in10 (by omega)) ?_
        refine a_iadd dX0_weightSum_25 ?_
        refine a_istore_n dX0_weightSum_26 (by decide) rfl ?_
        refine a_iinc (nI (j + 1)) dX0_weightSum_27 rfl (nI_1 _) (by decide) rfl ?_
        refine a_goto 4 dX0_weightSum_30 (by decide) ?_
        exact ih (j + 1) _ (by omega) (by rw [← hr, cl10 (by omega)]; simp [aLp, bI_1 c15])
  exact lp 10 0 0 rfl hr
def fGw (nm wt up : Nat → Int32) (lo : Int32) : Int32 := aLp (fun j c => if decide (¬ nI j = lo) && fUp nm up (nI j) then (if c < wt j then wt j else c) else c) 10 0 0
theorem c_X0_greatestWeightWithout (lo : Int32) : aRd l X mX0_greatestWeightWithout rs5 [.ref 0, .int lo] (aFt nm wt up ld) (.int (fGw nm wt up lo)) := by
  refine aMt.of (by decide) rfl (Nat.le_of_ble_eq_true rfl) ?_
  generalize hr : fGw nm wt up lo = r
  refine a_iconst 0 dX0_greatestWeightWithout_0 (by decide) ?_
  refine a_istore_n dX0_greatestWeightWithout_1 (by decide) rfl ?_
  refine a_iconst 0 dX0_greatestWeightWithout_2 (by decide) ?_
  refine a_istore_n dX0_greatestWeightWithout_3 (by decide) rfl ?_
  have lp : ∀ (k j : Nat) (a : Int32), j + k = 10 → aLp (fun j c => if decide (¬ nI j = lo) && fUp nm up (nI j) then (if c < wt j then wt j else c) else c) k j a = r → aJ l X mX0_greatestWeightWithout (aEd X mX0_greatestWeightWithout rs5 (fun o h' => o = .inl (some (.int r)) ∧ h' = aFt nm wt up ld)) 0 0 4 [.ref 0, .int lo, .int a, .int (nI j)] [] (aFt nm wt up ld) := by
    intro k
    induction k with
    | zero =>
      intro j a hj hr
      obtain rfl : j = 10 := by omega
      refine a_iload_n dX0_greatestWeightWithout_4 rfl ?_
      refine a_bipush 10 dX0_greatestWeightWithout_5 (by decide) ?_
      refine a_icmp_ge 40 dX0_greatestWeightWithout_7 (by decide) (fun _ => ?_) (fun z => absurd ge10_t z)
      refine a_iload_n dX0_greatestWeightWithout_40 rfl ?_
      refine a_iret rfl dX0_greatestWeightWithout_41 (by decide) (by decide) ?_
      exact ⟨by rw [← hr]; rfl, rfl⟩
    | succ k ih =>
      intro j a hj hr
      refine a_iload_n dX0_greatestWeightWithout_4 rfl ?_
      refine a_bipush 10 dX0_greatestWeightWithout_5 (by decide) ?_
      refine a_icmp_ge 40 dX0_greatestWeightWithout_7 (by decide) (fun z => absurd z (ge10_f (by omega))) (fun _ => ?_)
      refine a_iload_n dX0_greatestWeightWithout_10 rfl ?_
      refine a_iload_n dX0_greatestWeightWithout_11 rfl ?_
      refine a_icmp_eq 34 dX0_greatestWeightWithout_12 (by decide) (fun c12 => ?_) (fun c12 => ?_)
      · refine a_iinc (nI (j + 1)) dX0_greatestWeightWithout_34 rfl (nI_1 _) (by decide) rfl ?_
        refine a_goto 4 dX0_greatestWeightWithout_37 (by decide) ?_
        exact ih (j + 1) a (by omega) (by rw [← hr]; simp [aLp, c12])
      · refine a_aload_n dX0_greatestWeightWithout_15 rfl ?_
        refine a_iload_n dX0_greatestWeightWithout_16 rfl ?_
        refine a_ViR [0, 1, 2, 3, 4] k_X0_greatestWeightWithout_39 (c_X0_isUp (nm := nm) (wt := wt) (up := up) (ld := ld) (nI j)) dX0_greatestWeightWithout_17 rfl rfl rfl rfl rfl rfl (Nat.le_of_ble_eq_true rfl) ⟨Nat.le_of_ble_eq_true rfl, Nat.le_of_ble_eq_true rfl⟩ ⟨rfl, rfl⟩ ?_
        refine a_if_eq 34 dX0_greatestWeightWithout_20 (by decide) (fun c20 => ?_) (fun c20 => ?_)
        · refine a_iinc (nI (j + 1)) dX0_greatestWeightWithout_34 rfl (nI_1 _) (by decide) rfl ?_
          refine a_goto 4 dX0_greatestWeightWithout_37 (by decide) ?_
          exact ih (j + 1) a (by omega) (by rw [← hr]; simp [aLp, bI_0 c20])
        · refine a_iload_n dX0_greatestWeightWithout_23 rfl ?_
          refine a_aload_n dX0_greatestWeightWithout_24 rfl ?_
          refine a_get fl_X0_15 dX0_greatestWeightWithout_25 rfl rfl ?_
          refine a_iload_n dX0_greatestWeightWithout_28 rfl ?_
          refine a_iald dX0_greatestWeightWithout_29 rfl (in10 (by omega)) ?_
          refine a_max mm_X0_46 mt_max_st ini_J9 mt_max_cd dX0_greatestWeightWithout_30 (by decide) (Nat.le_of_ble_eq_true rfl) (by decide) (by decide) ?_
          refine a_istore_n dX0_greatestWeightWithout_33 (by decide) rfl ?_
          refine a_iinc (nI (j + 1)) dX0_greatestWeightWithout_34 rfl (nI_1 _) (by decide) rfl ?_
          refine a_goto 4 dX0_greatestWeightWithout_37 (by decide) ?_
          exact ih (j + 1) _ (by omega) (by rw [← hr, cl10 (by omega)]; simp [aLp, c12, bI_1 c20])
  exact lp 10 0 0 rfl hr
def fFn (nm : Nat → Int32) (n : Int32) : Int32 := aFd (fun j => decide (nm j = n)) 10 0
theorem c_X0_find (n : Int32) : aRd l X mX0_find rs5 [.ref 0, .int n] (aFt nm wt up ld) (.int (fFn nm n)) := by
  refine aMt.of (by decide) rfl (Nat.le_of_ble_eq_true rfl) ?_
  generalize hr : fFn nm n = r
  refine a_iconst 0 dX0_find_0 (by decide) ?_
  refine a_istore_n dX0_find_1 (by decide) rfl ?_
  have lp : ∀ (k j : Nat), j + k = 10 → aFd (fun j => decide (nm j = n)) k j = r → aJ l X mX0_find (aEd X mX0_find rs5 (fun o h' => o = .inl (some (.int r)) ∧ h' = aFt nm wt up ld)) 0 0 2 [.ref 0, .int n, .int (nI j)] [] (aFt nm wt up ld) := by
    intro k
    induction k with
    | zero =>
      intro j hj hr
      obtain rfl : j = 10 := by omega
      refine a_iload_n dX0_find_2 rfl ?_
      refine a_bipush 10 dX0_find_3 (by decide) ?_
      refine a_icmp_ge 26 dX0_find_5 (by decide) (fun _ => ?_) (fun z => absurd ge10_t z)
      refine a_iconst (-1) dX0_find_26 (by decide) ?_
      refine a_iret rfl dX0_find_27 (by decide) (by decide) ?_
      exact ⟨by rw [← hr]; rfl, rfl⟩
    | succ k ih =>
      intro j hj hr
      refine a_iload_n dX0_find_2 rfl ?_
      refine a_bipush 10 dX0_find_3 (by decide) ?_
      refine a_icmp_ge 26 dX0_find_5 (by decide) (fun z => absurd z (ge10_f (by omega))) (fun _ => ?_)
      refine a_aload_n dX0_find_8 rfl ?_
      refine a_get fl_X0_9 dX0_find_9 rfl rfl ?_
      refine a_iload_n dX0_find_12 rfl ?_
      refine a_iald dX0_find_13 rfl (in10 (by omega)) ?_
      refine a_iload_n dX0_find_14 rfl ?_
      refine a_icmp_ne 20 dX0_find_15 (by decide) (fun c15 => ?_) (fun c15 => ?_)
      · rw [cl10 (by omega)] at c15
        refine a_iinc (nI (j + 1)) dX0_find_20 rfl (nI_1 _) (by decide) rfl ?_
        refine a_goto 2 dX0_find_23 (by decide) ?_
        exact ih (j + 1) (by omega) (by rw [← hr]; simp [aFd, c15])
      · rw [cl10 (by omega)] at c15
        refine a_iload_n dX0_find_18 rfl ?_
        refine a_iret rfl dX0_find_19 (by decide) (by decide) ?_
        exact ⟨by rw [← hr]; simp [aFd, c15], rfl⟩
  exact lp 10 0 rfl hr
theorem c_X0_lowestFree : aRd l X mX0_lowestFree rs5 [.ref 0] (aFt nm wt up ld) (.int (fFn nm 0)) := by
  refine aMt.of (by decide) rfl (Nat.le_of_ble_eq_true rfl) ?_
  refine a_aload_n dX0_lowestFree_0 rfl ?_
  refine a_iconst 0 dX0_lowestFree_1 (by decide) ?_
  refine a_ViR [0, 1, 2, 3, 4] k_X0_lowestFree_42 (c_X0_find (nm := nm) (wt := wt) (up := up) (ld := ld) 0) dX0_lowestFree_2 rfl rfl rfl rfl rfl rfl (Nat.le_of_ble_eq_true rfl) ⟨Nat.le_of_ble_eq_true rfl, Nat.le_of_ble_eq_true rfl⟩ ⟨rfl, rfl⟩ ?_
  refine a_iret rfl dX0_lowestFree_5 (by decide) (by decide) ?_
  exact ⟨rfl, rfl⟩
end FLEET
