/-! written by wip/whole/pp.py out of wip/whole/src/17.tracker.lean -/
theorem dX5_init_0 : decode cX5_init 0 = .ok (.aload_n 0, 1) := by decide +kernel
theorem dX5_init_1 : decode cX5_init 1 = .ok (.invokespecial 3, 3) := by decide +kernel
theorem dX5_init_4 : decode cX5_init 4 = .ok (.aload_n 0, 1) := by decide +kernel
theorem dX5_init_5 : decode cX5_init 5 = .ok (.bipush 8, 2) := by decide +kernel
theorem dX5_init_7 : decode cX5_init 7 = .ok (.newarray .int, 2) := by decide +kernel
theorem dX5_init_9 : decode cX5_init 9 = .ok (.putfield 9, 3) := by decide +kernel
theorem dX5_init_12 : decode cX5_init 12 = .ok (.aload_n 0, 1) := by decide +kernel
theorem dX5_init_13 : decode cX5_init 13 = .ok (.bipush 8, 2) := by decide +kernel
theorem dX5_init_15 : decode cX5_init 15 = .ok (.newarray .long, 2) := by decide +kernel
theorem dX5_init_17 : decode cX5_init 17 = .ok (.putfield 15, 3) := by decide +kernel
theorem dX5_init_20 : decode cX5_init 20 = .ok (.aload_n 0, 1) := by decide +kernel
theorem dX5_init_21 : decode cX5_init 21 = .ok (.bipush 8, 2) := by decide +kernel
theorem dX5_init_23 : decode cX5_init 23 = .ok (.newarray .long, 2) := by decide +kernel
theorem dX5_init_25 : decode cX5_init 25 = .ok (.putfield 19, 3) := by decide +kernel
theorem dX5_init_28 : decode cX5_init 28 = .ok (.aload_n 0, 1) := by decide +kernel
theorem dX5_init_29 : decode cX5_init 29 = .ok (.iconst 0, 1) := by decide +kernel
theorem dX5_init_30 : decode cX5_init 30 = .ok (.putfield 22, 3) := by decide +kernel
theorem dX5_init_33 : decode cX5_init 33 = .ok (.return_, 1) := by decide +kernel
theorem dX5_clear_0 : decode cX5_clear 0 = .ok (.aload_n 0, 1) := by decide +kernel
theorem dX5_clear_1 : decode cX5_clear 1 = .ok (.iconst 0, 1) := by decide +kernel
theorem dX5_clear_2 : decode cX5_clear 2 = .ok (.putfield 22, 3) := by decide +kernel
theorem dX5_clear_5 : decode cX5_clear 5 = .ok (.return_, 1) := by decide +kernel
theorem dX5_size_0 : decode cX5_size 0 = .ok (.aload_n 0, 1) := by decide +kernel
theorem dX5_size_1 : decode cX5_size 1 = .ok (.getfield 22, 3) := by decide +kernel
theorem dX5_size_4 : decode cX5_size 4 = .ok (.ireturn, 1) := by decide +kernel
theorem dX5_has_0 : decode cX5_has 0 = .ok (.iload_n 1, 1) := by decide +kernel
theorem dX5_has_1 : decode cX5_has 1 = .ok (.ifCond .lt 21, 3) := by decide +kernel
theorem dX5_has_4 : decode cX5_has 4 = .ok (.iload_n 1, 1) := by decide +kernel
theorem dX5_has_5 : decode cX5_has 5 = .ok (.aload_n 0, 1) := by decide +kernel
theorem dX5_has_6 : decode cX5_has 6 = .ok (.getfield 22, 3) := by decide +kernel
theorem dX5_has_9 : decode cX5_has 9 = .ok (.if_icmp .ge 13, 3) := by decide +kernel
theorem dX5_has_12 : decode cX5_has 12 = .ok (.iload_n 1, 1) := by decide +kernel
theorem dX5_has_13 : decode cX5_has 13 = .ok (.bipush 8, 2) := by decide +kernel
theorem dX5_has_15 : decode cX5_has 15 = .ok (.if_icmp .ge 7, 3) := by decide +kernel
theorem dX5_has_18 : decode cX5_has 18 = .ok (.iconst 1, 1) := by decide +kernel
theorem dX5_has_19 : decode cX5_has 19 = .ok (.goto 4, 3) := by decide +kernel
theorem dX5_has_22 : decode cX5_has 22 = .ok (.iconst 0, 1) := by decide +kernel
theorem dX5_has_23 : decode cX5_has 23 = .ok (.ireturn, 1) := by decide +kernel
theorem dX5_key_0 : decode cX5_key 0 = .ok (.aload_n 0, 1) := by decide +kernel
theorem dX5_key_1 : decode cX5_key 1 = .ok (.iload_n 1, 1) := by decide +kernel
theorem dX5_key_2 : decode cX5_key 2 = .ok (.invokevirtual 26, 3) := by decide +kernel
theorem dX5_key_5 : decode cX5_key 5 = .ok (.ifCond .eq 12, 3) := by decide +kernel
theorem dX5_key_8 : decode cX5_key 8 = .ok (.aload_n 0, 1) := by decide +kernel
theorem dX5_key_9 : decode cX5_key 9 = .ok (.getfield 9, 3) := by decide +kernel
theorem dX5_key_12 : decode cX5_key 12 = .ok (.iload_n 1, 1) := by decide +kernel
theorem dX5_key_13 : decode cX5_key 13 = .ok (.iaload, 1) := by decide +kernel
theorem dX5_key_14 : decode cX5_key 14 = .ok (.goto 4, 3) := by decide +kernel
theorem dX5_key_17 : decode cX5_key 17 = .ok (.iconst (-1), 1) := by decide +kernel
theorem dX5_key_18 : decode cX5_key 18 = .ok (.ireturn, 1) := by decide +kernel
theorem dX5_counted_0 : decode cX5_counted 0 = .ok (.aload_n 0, 1) := by decide +kernel
theorem dX5_counted_1 : decode cX5_counted 1 = .ok (.iload_n 1, 1) := by decide +kernel
theorem dX5_counted_2 : decode cX5_counted 2 = .ok (.invokevirtual 26, 3) := by decide +kernel
theorem dX5_counted_5 : decode cX5_counted 5 = .ok (.ifCond .eq 12, 3) := by decide +kernel
theorem dX5_counted_8 : decode cX5_counted 8 = .ok (.aload_n 0, 1) := by decide +kernel
theorem dX5_counted_9 : decode cX5_counted 9 = .ok (.getfield 15, 3) := by decide +kernel
theorem dX5_counted_12 : decode cX5_counted 12 = .ok (.iload_n 1, 1) := by decide +kernel
theorem dX5_counted_13 : decode cX5_counted 13 = .ok (.laload, 1) := by decide +kernel
theorem dX5_counted_14 : decode cX5_counted 14 = .ok (.goto 4, 3) := by decide +kernel
theorem dX5_counted_17 : decode cX5_counted 17 = .ok (.lconst 0, 1) := by decide +kernel
theorem dX5_counted_18 : decode cX5_counted 18 = .ok (.lreturn, 1) := by decide +kernel
theorem dX5_error_0 : decode cX5_error 0 = .ok (.aload_n 0, 1) := by decide +kernel
theorem dX5_error_1 : decode cX5_error 1 = .ok (.iload_n 1, 1) := by decide +kernel
theorem dX5_error_2 : decode cX5_error 2 = .ok (.invokevirtual 26, 3) := by decide +kernel
theorem dX5_error_5 : decode cX5_error 5 = .ok (.ifCond .eq 12, 3) := by decide +kernel
theorem dX5_error_8 : decode cX5_error 8 = .ok (.aload_n 0, 1) := by decide +kernel
theorem dX5_error_9 : decode cX5_error 9 = .ok (.getfield 19, 3) := by decide +kernel
theorem dX5_error_12 : decode cX5_error 12 = .ok (.iload_n 1, 1) := by decide +kernel
theorem dX5_error_13 : decode cX5_error 13 = .ok (.laload, 1) := by decide +kernel
theorem dX5_error_14 : decode cX5_error 14 = .ok (.goto 4, 3) := by decide +kernel
theorem dX5_error_17 : decode cX5_error 17 = .ok (.lconst 0, 1) := by decide +kernel
theorem dX5_error_18 : decode cX5_error 18 = .ok (.lreturn, 1) := by decide +kernel
theorem dX5_count_0 : decode cX5_count 0 = .ok (.aload_n 0, 1) := by decide +kernel
theorem dX5_count_1 : decode cX5_count 1 = .ok (.iload_n 1, 1) := by decide +kernel
theorem dX5_count_2 : decode cX5_count 2 = .ok (.invokevirtual 30, 3) := by decide +kernel
theorem dX5_count_5 : decode cX5_count 5 = .ok (.istore_n 3, 1) := by decide +kernel
theorem dX5_count_6 : decode cX5_count 6 = .ok (.iload_n 3, 1) := by decide +kernel
theorem dX5_count_7 : decode cX5_count 7 = .ok (.iconst (-1), 1) := by decide +kernel
theorem dX5_count_8 : decode cX5_count 8 = .ok (.if_icmp .ne 26, 3) := by decide +kernel
theorem dX5_count_11 : decode cX5_count 11 = .ok (.aload_n 0, 1) := by decide +kernel
theorem dX5_count_12 : decode cX5_count 12 = .ok (.getfield 22, 3) := by decide +kernel
theorem dX5_count_15 : decode cX5_count 15 = .ok (.bipush 8, 2) := by decide +kernel
theorem dX5_count_17 : decode cX5_count 17 = .ok (.if_icmp .ge 11, 3) := by decide +kernel
theorem dX5_count_20 : decode cX5_count 20 = .ok (.aload_n 0, 1) := by decide +kernel
theorem dX5_count_21 : decode cX5_count 21 = .ok (.iload_n 1, 1) := by decide +kernel
theorem dX5_count_22 : decode cX5_count 22 = .ok (.invokevirtual 34, 3) := by decide +kernel
theorem dX5_count_25 : decode cX5_count 25 = .ok (.goto 8, 3) := by decide +kernel
theorem dX5_count_28 : decode cX5_count 28 = .ok (.aload_n 0, 1) := by decide +kernel
theorem dX5_count_29 : decode cX5_count 29 = .ok (.iload_n 1, 1) := by decide +kernel
theorem dX5_count_30 : decode cX5_count 30 = .ok (.invokevirtual 37, 3) := by decide +kernel
theorem dX5_count_33 : decode cX5_count 33 = .ok (.istore_n 3, 1) := by decide +kernel
theorem dX5_count_34 : decode cX5_count 34 = .ok (.aload_n 0, 1) := by decide +kernel
theorem dX5_count_35 : decode cX5_count 35 = .ok (.iload_n 3, 1) := by decide +kernel
theorem dX5_count_36 : decode cX5_count 36 = .ok (.invokevirtual 26, 3) := by decide +kernel
theorem dX5_count_39 : decode cX5_count 39 = .ok (.ifCond .eq 19, 3) := by decide +kernel
theorem dX5_count_42 : decode cX5_count 42 = .ok (.aload_n 0, 1) := by decide +kernel
theorem dX5_count_43 : decode cX5_count 43 = .ok (.getfield 15, 3) := by decide +kernel
theorem dX5_count_46 : decode cX5_count 46 = .ok (.iload_n 3, 1) := by decide +kernel
theorem dX5_count_47 : decode cX5_count 47 = .ok (.dup2, 1) := by decide +kernel
theorem dX5_count_48 : decode cX5_count 48 = .ok (.laload, 1) := by decide +kernel
theorem dX5_count_49 : decode cX5_count 49 = .ok (.iload_n 2, 1) := by decide +kernel
theorem dX5_count_50 : decode cX5_count 50 = .ok (.i2l, 1) := by decide +kernel
theorem dX5_count_51 : decode cX5_count 51 = .ok (.ladd, 1) := by decide +kernel
theorem dX5_count_52 : decode cX5_count 52 = .ok (.lastore, 1) := by decide +kernel
theorem dX5_count_53 : decode cX5_count 53 = .ok (.aload_n 0, 1) := by decide +kernel
theorem dX5_count_54 : decode cX5_count 54 = .ok (.iload_n 3, 1) := by decide +kernel
theorem dX5_count_55 : decode cX5_count 55 = .ok (.invokevirtual 40, 3) := by decide +kernel
theorem dX5_count_58 : decode cX5_count 58 = .ok (.return_, 1) := by decide +kernel
theorem dX5_find_0 : decode cX5_find 0 = .ok (.iconst 0, 1) := by decide +kernel
theorem dX5_find_1 : decode cX5_find 1 = .ok (.istore_n 2, 1) := by decide +kernel
theorem dX5_find_2 : decode cX5_find 2 = .ok (.iload_n 2, 1) := by decide +kernel
theorem dX5_find_3 : decode cX5_find 3 = .ok (.aload_n 0, 1) := by decide +kernel
theorem dX5_find_4 : decode cX5_find 4 = .ok (.getfield 22, 3) := by decide +kernel
theorem dX5_find_7 : decode cX5_find 7 = .ok (.if_icmp .ge 21, 3) := by decide +kernel
theorem dX5_find_10 : decode cX5_find 10 = .ok (.aload_n 0, 1) := by decide +kernel
theorem dX5_find_11 : decode cX5_find 11 = .ok (.getfield 9, 3) := by decide +kernel
theorem dX5_find_14 : decode cX5_find 14 = .ok (.iload_n 2, 1) := by decide +kernel
theorem dX5_find_15 : decode cX5_find 15 = .ok (.iaload, 1) := by decide +kernel
theorem dX5_find_16 : decode cX5_find 16 = .ok (.iload_n 1, 1) := by decide +kernel
theorem dX5_find_17 : decode cX5_find 17 = .ok (.if_icmp .ne 5, 3) := by decide +kernel
theorem dX5_find_20 : decode cX5_find 20 = .ok (.iload_n 2, 1) := by decide +kernel
theorem dX5_find_21 : decode cX5_find 21 = .ok (.ireturn, 1) := by decide +kernel
theorem dX5_find_22 : decode cX5_find 22 = .ok (.iinc 2 1, 3) := by decide +kernel
theorem dX5_find_25 : decode cX5_find 25 = .ok (.goto (-23), 3) := by decide +kernel
theorem dX5_find_28 : decode cX5_find 28 = .ok (.iconst (-1), 1) := by decide +kernel
theorem dX5_find_29 : decode cX5_find 29 = .ok (.ireturn, 1) := by decide +kernel
theorem dX5_append_0 : decode cX5_append 0 = .ok (.aload_n 0, 1) := by decide +kernel
theorem dX5_append_1 : decode cX5_append 1 = .ok (.getfield 22, 3) := by decide +kernel
theorem dX5_append_4 : decode cX5_append 4 = .ok (.istore_n 2, 1) := by decide +kernel
theorem dX5_append_5 : decode cX5_append 5 = .ok (.iload_n 2, 1) := by decide +kernel
theorem dX5_append_6 : decode cX5_append 6 = .ok (.ifCond .lt 9, 3) := by decide +kernel
theorem dX5_append_9 : decode cX5_append 9 = .ok (.iload_n 2, 1) := by decide +kernel
theorem dX5_append_10 : decode cX5_append 10 = .ok (.bipush 8, 2) := by decide +kernel
theorem dX5_append_12 : decode cX5_append 12 = .ok (.if_icmp .lt 5, 3) := by decide +kernel
theorem dX5_append_15 : decode cX5_append 15 = .ok (.iconst (-1), 1) := by decide +kernel
theorem dX5_append_16 : decode cX5_append 16 = .ok (.ireturn, 1) := by decide +kernel
theorem dX5_append_17 : decode cX5_append 17 = .ok (.aload_n 0, 1) := by decide +kernel
theorem dX5_append_18 : decode cX5_append 18 = .ok (.getfield 9, 3) := by decide +kernel
theorem dX5_append_21 : decode cX5_append 21 = .ok (.iload_n 2, 1) := by decide +kernel
theorem dX5_append_22 : decode cX5_append 22 = .ok (.iload_n 1, 1) := by decide +kernel
theorem dX5_append_23 : decode cX5_append 23 = .ok (.iastore, 1) := by decide +kernel
theorem dX5_append_24 : decode cX5_append 24 = .ok (.aload_n 0, 1) := by decide +kernel
theorem dX5_append_25 : decode cX5_append 25 = .ok (.getfield 15, 3) := by decide +kernel
theorem dX5_append_28 : decode cX5_append 28 = .ok (.iload_n 2, 1) := by decide +kernel
theorem dX5_append_29 : decode cX5_append 29 = .ok (.lconst 0, 1) := by decide +kernel
theorem dX5_append_30 : decode cX5_append 30 = .ok (.lastore, 1) := by decide +kernel
theorem dX5_append_31 : decode cX5_append 31 = .ok (.aload_n 0, 1) := by decide +kernel
theorem dX5_append_32 : decode cX5_append 32 = .ok (.getfield 19, 3) := by decide +kernel
theorem dX5_append_35 : decode cX5_append 35 = .ok (.iload_n 2, 1) := by decide +kernel
theorem dX5_append_36 : decode cX5_append 36 = .ok (.lconst 0, 1) := by decide +kernel
theorem dX5_append_37 : decode cX5_append 37 = .ok (.lastore, 1) := by decide +kernel
theorem dX5_append_38 : decode cX5_append 38 = .ok (.aload_n 0, 1) := by decide +kernel
theorem dX5_append_39 : decode cX5_append 39 = .ok (.dup, 1) := by decide +kernel
theorem dX5_append_40 : decode cX5_append 40 = .ok (.getfield 22, 3) := by decide +kernel
theorem dX5_append_43 : decode cX5_append 43 = .ok (.iconst 1, 1) := by decide +kernel
theorem dX5_append_44 : decode cX5_append 44 = .ok (.iadd, 1) := by decide +kernel
theorem dX5_append_45 : decode cX5_append 45 = .ok (.putfield 22, 3) := by decide +kernel
theorem dX5_append_48 : decode cX5_append 48 = .ok (.iload_n 2, 1) := by decide +kernel
theorem dX5_append_49 : decode cX5_append 49 = .ok (.ireturn, 1) := by decide +kernel
theorem dX5_replaceLeast_0 : decode cX5_replaceLeast 0 = .ok (.aload_n 0, 1) := by decide +kernel
theorem dX5_replaceLeast_1 : decode cX5_replaceLeast 1 = .ok (.invokevirtual 44, 3) := by decide +kernel
theorem dX5_replaceLeast_4 : decode cX5_replaceLeast 4 = .ok (.istore_n 2, 1) := by decide +kernel
theorem dX5_replaceLeast_5 : decode cX5_replaceLeast 5 = .ok (.aload_n 0, 1) := by decide +kernel
theorem dX5_replaceLeast_6 : decode cX5_replaceLeast 6 = .ok (.iload_n 2, 1) := by decide +kernel
theorem dX5_replaceLeast_7 : decode cX5_replaceLeast 7 = .ok (.invokevirtual 26, 3) := by decide +kernel
theorem dX5_replaceLeast_10 : decode cX5_replaceLeast 10 = .ok (.ifCond .eq 22, 3) := by decide +kernel
theorem dX5_replaceLeast_13 : decode cX5_replaceLeast 13 = .ok (.aload_n 0, 1) := by decide +kernel
theorem dX5_replaceLeast_14 : decode cX5_replaceLeast 14 = .ok (.getfield 9, 3) := by decide +kernel
theorem dX5_replaceLeast_17 : decode cX5_replaceLeast 17 = .ok (.iload_n 2, 1) := by decide +kernel
theorem dX5_replaceLeast_18 : decode cX5_replaceLeast 18 = .ok (.iload_n 1, 1) := by decide +kernel
theorem dX5_replaceLeast_19 : decode cX5_replaceLeast 19 = .ok (.iastore, 1) := by decide +kernel
theorem dX5_replaceLeast_20 : decode cX5_replaceLeast 20 = .ok (.aload_n 0, 1) := by decide +kernel
theorem dX5_replaceLeast_21 : decode cX5_replaceLeast 21 = .ok (.getfield 19, 3) := by decide +kernel
theorem dX5_replaceLeast_24 : decode cX5_replaceLeast 24 = .ok (.iload_n 2, 1) := by decide +kernel
theorem dX5_replaceLeast_25 : decode cX5_replaceLeast 25 = .ok (.aload_n 0, 1) := by decide +kernel
theorem dX5_replaceLeast_26 : decode cX5_replaceLeast 26 = .ok (.getfield 15, 3) := by decide +kernel
theorem dX5_replaceLeast_29 : decode cX5_replaceLeast 29 = .ok (.iload_n 2, 1) := by decide +kernel
theorem dX5_replaceLeast_30 : decode cX5_replaceLeast 30 = .ok (.laload, 1) := by decide +kernel
theorem dX5_replaceLeast_31 : decode cX5_replaceLeast 31 = .ok (.lastore, 1) := by decide +kernel
theorem dX5_replaceLeast_32 : decode cX5_replaceLeast 32 = .ok (.iload_n 2, 1) := by decide +kernel
theorem dX5_replaceLeast_33 : decode cX5_replaceLeast 33 = .ok (.ireturn, 1) := by decide +kernel
theorem dX5_least_0 : decode cX5_least 0 = .ok (.aload_n 0, 1) := by decide +kernel
theorem dX5_least_1 : decode cX5_least 1 = .ok (.getfield 22, 3) := by decide +kernel
theorem dX5_least_4 : decode cX5_least 4 = .ok (.iconst 1, 1) := by decide +kernel
theorem dX5_least_5 : decode cX5_least 5 = .ok (.isub, 1) := by decide +kernel
theorem dX5_least_6 : decode cX5_least 6 = .ok (.istore_n 1, 1) := by decide +kernel
theorem dX5_least_7 : decode cX5_least 7 = .ok (.iload_n 1, 1) := by decide +kernel
theorem dX5_least_8 : decode cX5_least 8 = .ok (.ifCond .le 25, 3) := by decide +kernel
theorem dX5_least_11 : decode cX5_least 11 = .ok (.aload_n 0, 1) := by decide +kernel
theorem dX5_least_12 : decode cX5_least 12 = .ok (.iload_n 1, 1) := by decide +kernel
theorem dX5_least_13 : decode cX5_least 13 = .ok (.iconst 1, 1) := by decide +kernel
theorem dX5_least_14 : decode cX5_least 14 = .ok (.isub, 1) := by decide +kernel
theorem dX5_least_15 : decode cX5_least 15 = .ok (.invokevirtual 48, 3) := by decide +kernel
theorem dX5_least_18 : decode cX5_least 18 = .ok (.aload_n 0, 1) := by decide +kernel
theorem dX5_least_19 : decode cX5_least 19 = .ok (.iload_n 1, 1) := by decide +kernel
theorem dX5_least_20 : decode cX5_least 20 = .ok (.invokevirtual 48, 3) := by decide +kernel
theorem dX5_least_23 : decode cX5_least 23 = .ok (.lcmp, 1) := by decide +kernel
theorem dX5_least_24 : decode cX5_least 24 = .ok (.ifCond .ne 9, 3) := by decide +kernel
theorem dX5_least_27 : decode cX5_least 27 = .ok (.iinc 1 (-1), 3) := by decide +kernel
theorem dX5_least_30 : decode cX5_least 30 = .ok (.goto (-23), 3) := by decide +kernel
theorem dX5_least_33 : decode cX5_least 33 = .ok (.iload_n 1, 1) := by decide +kernel
theorem dX5_least_34 : decode cX5_least 34 = .ok (.ireturn, 1) := by decide +kernel
theorem dX5_moveForward_0 : decode cX5_moveForward 0 = .ok (.iload_n 1, 1) := by decide +kernel
theorem dX5_moveForward_1 : decode cX5_moveForward 1 = .ok (.istore_n 2, 1) := by decide +kernel
theorem dX5_moveForward_2 : decode cX5_moveForward 2 = .ok (.iload_n 2, 1) := by decide +kernel
theorem dX5_moveForward_3 : decode cX5_moveForward 3 = .ok (.ifCond .le 28, 3) := by decide +kernel
theorem dX5_moveForward_6 : decode cX5_moveForward 6 = .ok (.aload_n 0, 1) := by decide +kernel
theorem dX5_moveForward_7 : decode cX5_moveForward 7 = .ok (.iload_n 2, 1) := by decide +kernel
theorem dX5_moveForward_8 : decode cX5_moveForward 8 = .ok (.iload_n 2, 1) := by decide +kernel
theorem dX5_moveForward_9 : decode cX5_moveForward 9 = .ok (.iconst 1, 1) := by decide +kernel
theorem dX5_moveForward_10 : decode cX5_moveForward 10 = .ok (.isub, 1) := by decide +kernel
theorem dX5_moveForward_11 : decode cX5_moveForward 11 = .ok (.invokevirtual 52, 3) := by decide +kernel
theorem dX5_moveForward_14 : decode cX5_moveForward 14 = .ok (.ifCond .eq 17, 3) := by decide +kernel
theorem dX5_moveForward_17 : decode cX5_moveForward 17 = .ok (.aload_n 0, 1) := by decide +kernel
theorem dX5_moveForward_18 : decode cX5_moveForward 18 = .ok (.iload_n 2, 1) := by decide +kernel
theorem dX5_moveForward_19 : decode cX5_moveForward 19 = .ok (.iload_n 2, 1) := by decide +kernel
theorem dX5_moveForward_20 : decode cX5_moveForward 20 = .ok (.iconst 1, 1) := by decide +kernel
theorem dX5_moveForward_21 : decode cX5_moveForward 21 = .ok (.isub, 1) := by decide +kernel
theorem dX5_moveForward_22 : decode cX5_moveForward 22 = .ok (.invokevirtual 56, 3) := by decide +kernel
theorem dX5_moveForward_25 : decode cX5_moveForward 25 = .ok (.iinc 2 (-1), 3) := by decide +kernel
theorem dX5_moveForward_28 : decode cX5_moveForward 28 = .ok (.goto (-26), 3) := by decide +kernel
theorem dX5_moveForward_31 : decode cX5_moveForward 31 = .ok (.return_, 1) := by decide +kernel
theorem dX5_isListedBefore_0 : decode cX5_isListedBefore 0 = .ok (.aload_n 0, 1) := by decide +kernel
theorem dX5_isListedBefore_1 : decode cX5_isListedBefore 1 = .ok (.iload_n 1, 1) := by decide +kernel
theorem dX5_isListedBefore_2 : decode cX5_isListedBefore 2 = .ok (.invokevirtual 48, 3) := by decide +kernel
theorem dX5_isListedBefore_5 : decode cX5_isListedBefore 5 = .ok (.lstore_n 3, 1) := by decide +kernel
theorem dX5_isListedBefore_6 : decode cX5_isListedBefore 6 = .ok (.aload_n 0, 1) := by decide +kernel
theorem dX5_isListedBefore_7 : decode cX5_isListedBefore 7 = .ok (.iload_n 2, 1) := by decide +kernel
theorem dX5_isListedBefore_8 : decode cX5_isListedBefore 8 = .ok (.invokevirtual 48, 3) := by decide +kernel
theorem dX5_isListedBefore_11 : decode cX5_isListedBefore 11 = .ok (.lstore 5, 2) := by decide +kernel
theorem dX5_isListedBefore_13 : decode cX5_isListedBefore 13 = .ok (.lload_n 3, 1) := by decide +kernel
theorem dX5_isListedBefore_14 : decode cX5_isListedBefore 14 = .ok (.lload 5, 2) := by decide +kernel
theorem dX5_isListedBefore_16 : decode cX5_isListedBefore 16 = .ok (.lcmp, 1) := by decide +kernel
theorem dX5_isListedBefore_17 : decode cX5_isListedBefore 17 = .ok (.ifCond .gt 23, 3) := by decide +kernel
theorem dX5_isListedBefore_20 : decode cX5_isListedBefore 20 = .ok (.lload_n 3, 1) := by decide +kernel
theorem dX5_isListedBefore_21 : decode cX5_isListedBefore 21 = .ok (.lload 5, 2) := by decide +kernel
theorem dX5_isListedBefore_23 : decode cX5_isListedBefore 23 = .ok (.lcmp, 1) := by decide +kernel
theorem dX5_isListedBefore_24 : decode cX5_isListedBefore 24 = .ok (.ifCond .ne 20, 3) := by decide +kernel
theorem dX5_isListedBefore_27 : decode cX5_isListedBefore 27 = .ok (.aload_n 0, 1) := by decide +kernel
theorem dX5_isListedBefore_28 : decode cX5_isListedBefore 28 = .ok (.iload_n 1, 1) := by decide +kernel
theorem dX5_isListedBefore_29 : decode cX5_isListedBefore 29 = .ok (.invokevirtual 60, 3) := by decide +kernel
theorem dX5_isListedBefore_32 : decode cX5_isListedBefore 32 = .ok (.aload_n 0, 1) := by decide +kernel
theorem dX5_isListedBefore_33 : decode cX5_isListedBefore 33 = .ok (.iload_n 2, 1) := by decide +kernel
theorem dX5_isListedBefore_34 : decode cX5_isListedBefore 34 = .ok (.invokevirtual 60, 3) := by decide +kernel
theorem dX5_isListedBefore_37 : decode cX5_isListedBefore 37 = .ok (.if_icmp .ge 7, 3) := by decide +kernel
theorem dX5_isListedBefore_40 : decode cX5_isListedBefore 40 = .ok (.iconst 1, 1) := by decide +kernel
theorem dX5_isListedBefore_41 : decode cX5_isListedBefore 41 = .ok (.goto 4, 3) := by decide +kernel
theorem dX5_isListedBefore_44 : decode cX5_isListedBefore 44 = .ok (.iconst 0, 1) := by decide +kernel
theorem dX5_isListedBefore_45 : decode cX5_isListedBefore 45 = .ok (.ireturn, 1) := by decide +kernel
theorem dX5_swap_0 : decode cX5_swap 0 = .ok (.aload_n 0, 1) := by decide +kernel
theorem dX5_swap_1 : decode cX5_swap 1 = .ok (.iload_n 1, 1) := by decide +kernel
theorem dX5_swap_2 : decode cX5_swap 2 = .ok (.invokevirtual 26, 3) := by decide +kernel
theorem dX5_swap_5 : decode cX5_swap 5 = .ok (.ifCond .eq 93, 3) := by decide +kernel
theorem dX5_swap_8 : decode cX5_swap 8 = .ok (.aload_n 0, 1) := by decide +kernel
theorem dX5_swap_9 : decode cX5_swap 9 = .ok (.iload_n 2, 1) := by decide +kernel
theorem dX5_swap_10 : decode cX5_swap 10 = .ok (.invokevirtual 26, 3) := by decide +kernel
theorem dX5_swap_13 : decode cX5_swap 13 = .ok (.ifCond .eq 85, 3) := by decide +kernel
theorem dX5_swap_16 : decode cX5_swap 16 = .ok (.aload_n 0, 1) := by decide +kernel
theorem dX5_swap_17 : decode cX5_swap 17 = .ok (.getfield 9, 3) := by decide +kernel
theorem dX5_swap_20 : decode cX5_swap 20 = .ok (.iload_n 1, 1) := by decide +kernel
theorem dX5_swap_21 : decode cX5_swap 21 = .ok (.iaload, 1) := by decide +kernel
theorem dX5_swap_22 : decode cX5_swap 22 = .ok (.istore_n 3, 1) := by decide +kernel
theorem dX5_swap_23 : decode cX5_swap 23 = .ok (.aload_n 0, 1) := by decide +kernel
theorem dX5_swap_24 : decode cX5_swap 24 = .ok (.getfield 15, 3) := by decide +kernel
theorem dX5_swap_27 : decode cX5_swap 27 = .ok (.iload_n 1, 1) := by decide +kernel
theorem dX5_swap_28 : decode cX5_swap 28 = .ok (.laload, 1) := by decide +kernel
theorem dX5_swap_29 : decode cX5_swap 29 = .ok (.lstore 4, 2) := by decide +kernel
theorem dX5_swap_31 : decode cX5_swap 31 = .ok (.aload_n 0, 1) := by decide +kernel
theorem dX5_swap_32 : decode cX5_swap 32 = .ok (.getfield 19, 3) := by decide +kernel
theorem dX5_swap_35 : decode cX5_swap 35 = .ok (.iload_n 1, 1) := by decide +kernel
theorem dX5_swap_36 : decode cX5_swap 36 = .ok (.laload, 1) := by decide +kernel
theorem dX5_swap_37 : decode cX5_swap 37 = .ok (.lstore 6, 2) := by decide +kernel
theorem dX5_swap_39 : decode cX5_swap 39 = .ok (.aload_n 0, 1) := by decide +kernel
theorem dX5_swap_40 : decode cX5_swap 40 = .ok (.getfield 9, 3) := by decide +kernel
theorem dX5_swap_43 : decode cX5_swap 43 = .ok (.iload_n 1, 1) := by decide +kernel
theorem dX5_swap_44 : decode cX5_swap 44 = .ok (.aload_n 0, 1) := by decide +kernel
theorem dX5_swap_45 : decode cX5_swap 45 = .ok (.getfield 9, 3) := by decide +kernel
theorem dX5_swap_48 : decode cX5_swap 48 = .ok (.iload_n 2, 1) := by decide +kernel
theorem dX5_swap_49 : decode cX5_swap 49 = .ok (.iaload, 1) := by decide +kernel
theorem dX5_swap_50 : decode cX5_swap 50 = .ok (.iastore, 1) := by decide +kernel
theorem dX5_swap_51 : decode cX5_swap 51 = .ok (.aload_n 0, 1) := by decide +kernel
theorem dX5_swap_52 : decode cX5_swap 52 = .ok (.getfield 15, 3) := by decide +kernel
theorem dX5_swap_55 : decode cX5_swap 55 = .ok (.iload_n 1, 1) := by decide +kernel
theorem dX5_swap_56 : decode cX5_swap 56 = .ok (.aload_n 0, 1) := by decide +kernel
theorem dX5_swap_57 : decode cX5_swap 57 = .ok (.getfield 15, 3) := by decide +kernel
theorem dX5_swap_60 : decode cX5_swap 60 = .ok (.iload_n 2, 1) := by decide +kernel
theorem dX5_swap_61 : decode cX5_swap 61 = .ok (.laload, 1) := by decide +kernel
theorem dX5_swap_62 : decode cX5_swap 62 = .ok (.lastore, 1) := by decide +kernel
theorem dX5_swap_63 : decode cX5_swap 63 = .ok (.aload_n 0, 1) := by decide +kernel
theorem dX5_swap_64 : decode cX5_swap 64 = .ok (.getfield 19, 3) := by decide +kernel
theorem dX5_swap_67 : decode cX5_swap 67 = .ok (.iload_n 1, 1) := by decide +kernel
theorem dX5_swap_68 : decode cX5_swap 68 = .ok (.aload_n 0, 1) := by decide +kernel
theorem dX5_swap_69 : decode cX5_swap 69 = .ok (.getfield 19, 3) := by decide +kernel
theorem dX5_swap_72 : decode cX5_swap 72 = .ok (.iload_n 2, 1) := by decide +kernel
theorem dX5_swap_73 : decode cX5_swap 73 = .ok (.laload, 1) := by decide +kernel
theorem dX5_swap_74 : decode cX5_swap 74 = .ok (.lastore, 1) := by decide +kernel
theorem dX5_swap_75 : decode cX5_swap 75 = .ok (.aload_n 0, 1) := by decide +kernel
theorem dX5_swap_76 : decode cX5_swap 76 = .ok (.getfield 9, 3) := by decide +kernel
theorem dX5_swap_79 : decode cX5_swap 79 = .ok (.iload_n 2, 1) := by decide +kernel
theorem dX5_swap_80 : decode cX5_swap 80 = .ok (.iload_n 3, 1) := by decide +kernel
theorem dX5_swap_81 : decode cX5_swap 81 = .ok (.iastore, 1) := by decide +kernel
theorem dX5_swap_82 : decode cX5_swap 82 = .ok (.aload_n 0, 1) := by decide +kernel
theorem dX5_swap_83 : decode cX5_swap 83 = .ok (.getfield 15, 3) := by decide +kernel
theorem dX5_swap_86 : decode cX5_swap 86 = .ok (.iload_n 2, 1) := by decide +kernel
theorem dX5_swap_87 : decode cX5_swap 87 = .ok (.lload 4, 2) := by decide +kernel
theorem dX5_swap_89 : decode cX5_swap 89 = .ok (.lastore, 1) := by decide +kernel
theorem dX5_swap_90 : decode cX5_swap 90 = .ok (.aload_n 0, 1) := by decide +kernel
theorem dX5_swap_91 : decode cX5_swap 91 = .ok (.getfield 19, 3) := by decide +kernel
theorem dX5_swap_94 : decode cX5_swap 94 = .ok (.iload_n 2, 1) := by decide +kernel
theorem dX5_swap_95 : decode cX5_swap 95 = .ok (.lload 6, 2) := by decide +kernel
theorem dX5_swap_97 : decode cX5_swap 97 = .ok (.lastore, 1) := by decide +kernel
theorem dX5_swap_98 : decode cX5_swap 98 = .ok (.return_, 1) := by decide +kernel
theorem k_X5_key_26 : aKV mX5_key mX5_has 26 1 5 := ⟨cb_X5_has, rfl, ml_X5_26, iv_X5_has, sl_X5_has, ⟨_, _, rfl⟩, ⟨Nat.le_of_ble_eq_true rfl, Nat.le_of_ble_eq_true rfl⟩⟩
theorem k_X5_counted_26 : aKV mX5_counted mX5_has 26 1 5 := ⟨cb_X5_has, rfl, ml_X5_26, iv_X5_has, sl_X5_has, ⟨_, _, rfl⟩, ⟨Nat.le_of_ble_eq_true rfl, Nat.le_of_ble_eq_true rfl⟩⟩
theorem k_X5_error_26 : aKV mX5_error mX5_has 26 1 5 := ⟨cb_X5_has, rfl, ml_X5_26, iv_X5_has, sl_X5_has, ⟨_, _, rfl⟩, ⟨Nat.le_of_ble_eq_true rfl, Nat.le_of_ble_eq_true rfl⟩⟩
theorem k_X5_least_48 : aKV mX5_least mX5_counted 48 1 5 := ⟨cb_X5_counted, rfl, ml_X5_48, iv_X5_counted, sl_X5_counted, ⟨_, _, rfl⟩, ⟨Nat.le_of_ble_eq_true rfl, Nat.le_of_ble_eq_true rfl⟩⟩
theorem k_X5_replaceLeast_44 : aKV mX5_replaceLeast mX5_least 44 0 5 := ⟨cb_X5_least, rfl, ml_X5_44, iv_X5_least, sl_X5_least, ⟨_, _, rfl⟩, ⟨Nat.le_of_ble_eq_true rfl, Nat.le_of_ble_eq_true rfl⟩⟩
theorem k_X5_replaceLeast_26 : aKV mX5_replaceLeast mX5_has 26 1 5 := ⟨cb_X5_has, rfl, ml_X5_26, iv_X5_has, sl_X5_has, ⟨_, _, rfl⟩, ⟨Nat.le_of_ble_eq_true rfl, Nat.le_of_ble_eq_true rfl⟩⟩
theorem k_X5_isListedBefore_48 : aKV mX5_isListedBefore mX5_counted 48 1 5 := ⟨cb_X5_counted, rfl, ml_X5_48, iv_X5_counted, sl_X5_counted, ⟨_, _, rfl⟩, ⟨Nat.le_of_ble_eq_true rfl, Nat.le_of_ble_eq_true rfl⟩⟩
theorem k_X5_isListedBefore_60 : aKV mX5_isListedBefore mX5_key 60 1 5 := ⟨cb_X5_key, rfl, ml_X5_60, iv_X5_key, sl_X5_key, ⟨_, _, rfl⟩, ⟨Nat.le_of_ble_eq_true rfl, Nat.le_of_ble_eq_true rfl⟩⟩
theorem k_X5_swap_26 : aKV mX5_swap mX5_has 26 1 5 := ⟨cb_X5_has, rfl, ml_X5_26, iv_X5_has, sl_X5_has, ⟨_, _, rfl⟩, ⟨Nat.le_of_ble_eq_true rfl, Nat.le_of_ble_eq_true rfl⟩⟩
theorem k_X5_moveForward_52 : aKV mX5_moveForward mX5_isListedBefore 52 2 5 := ⟨cb_X5_isListedBefore, rfl, ml_X5_52, iv_X5_isListedBefore, sl_X5_isListedBefore, ⟨_, _, rfl⟩, ⟨Nat.le_of_ble_eq_true rfl, Nat.le_of_ble_eq_true rfl⟩⟩
theorem k_X5_moveForward_56 : aKV mX5_moveForward mX5_swap 56 2 5 := ⟨cb_X5_swap, rfl, ml_X5_56, iv_X5_swap, sl_X5_swap, ⟨_, _, rfl⟩, ⟨Nat.le_of_ble_eq_true rfl, Nat.le_of_ble_eq_true rfl⟩⟩
theorem k_X5_count_26 : aKV mX5_count mX5_has 26 1 5 := ⟨cb_X5_has, rfl, ml_X5_26, iv_X5_has, sl_X5_has, ⟨_, _, rfl⟩, ⟨Nat.le_of_ble_eq_true rfl, Nat.le_of_ble_eq_true rfl⟩⟩
theorem k_X5_count_40 : aKV mX5_count mX5_moveForward 40 1 5 := ⟨cb_X5_moveForward, rfl, ml_X5_40, iv_X5_moveForward, sl_X5_moveForward, ⟨_, _, rfl⟩, ⟨Nat.le_of_ble_eq_true rfl, Nat.le_of_ble_eq_true rfl⟩⟩
theorem k_X5_count_30 : aKV mX5_count mX5_find 30 1 5 := ⟨cb_X5_find, rfl, ml_X5_30, iv_X5_find, sl_X5_find, ⟨_, _, rfl⟩, ⟨Nat.le_of_ble_eq_true rfl, Nat.le_of_ble_eq_true rfl⟩⟩
theorem k_X5_count_34 : aKV mX5_count mX5_append 34 1 5 := ⟨cb_X5_append, rfl, ml_X5_34, iv_X5_append, sl_X5_append, ⟨_, _, rfl⟩, ⟨Nat.le_of_ble_eq_true rfl, Nat.le_of_ble_eq_true rfl⟩⟩
theorem k_X5_count_37 : aKV mX5_count mX5_replaceLeast 37 1 5 := ⟨cb_X5_replaceLeast, rfl, ml_X5_37, iv_X5_replaceLeast, sl_X5_replaceLeast, ⟨_, _, rfl⟩, ⟨Nat.le_of_ble_eq_true rfl, Nat.le_of_ble_eq_true rfl⟩⟩
/-! ===== Tracker ===== -/
abbrev aTr (tk : Nat → Int32) (tc te : Nat → Int64) (m : Nat) : List aCell := [aOb 5 [.ref 1, .ref 2, .ref 3, .int (nI m)], aIa 8 tk, aLa 8 tc, aLa 8 te]
abbrev rs4 : List Nat := [0, 1, 2, 3]
def tHs (m : Nat) (e : Int32) : Bool := decide (¬ e < 0) && (decide (¬ nI m ≤ e) && decide (¬ (8 : Int32) ≤ e))
theorem ge8_f {j : Nat} (h : j < 8) : ¬ (8 : Int32) ≤ nI j := nI_ge (b := 8) h (by decide)
theorem in8 {j : Nat} (h : j < 8) : vp_in (nI j) 8 := vp_in_nI h (by decide)
theorem cl8 {j : Nat} (h : j < 8) : (nI j).toNatClampNeg = j := nI_clamp (by omega)
theorem tHs_in {m : Nat} {e : Int32} (h : tHs m e = true) : vp_in e 8 := by
  simp only [tHs, Bool.and_eq_true, decide_eq_true_eq] at h
  obtain ⟨j, hj, rfl⟩ := nI_of h.1
  refine vp_in_nI ?_ (by decide)
  rcases Nat.lt_or_ge j 8 with q | q
  · exact q
  · exact absurd (nI_le (a := 8) q hj) h.2.2
theorem tHs_j {m j : Nat} (h : j < m) (hm : m ≤ 8) : tHs m (nI j) = true := by
  simp only [tHs, Bool.and_eq_true, decide_eq_true_eq]
  exact ⟨nI_pos (by omega), nI_ge h (by omega), ge8_f (by omega)⟩
/-- entry a stands ahead of entry b -/
def tLb (tk : Nat → Int32) (tc : Nat → Int64) (a b : Nat) : Bool := decide (tc b < tc a) || (decide (tc a = tc b) && decide (¬ tk b ≤ tk a))
abbrev tT : Type := (Nat → Int32) × (Nat → Int64) × (Nat → Int64)
def tSw (σ : tT) (a b : Nat) : tT := (upd (upd σ.1 a (σ.1 b)) b (σ.1 a), vp_updL (vp_updL σ.2.1 a (σ.2.1 b)) b (σ.2.1 a), vp_updL (vp_updL σ.2.2 a (σ.2.2 b)) b (σ.2.2 a))
def tMv : Nat → tT → tT
  | 0, σ => σ
  | i + 1, σ => if tLb σ.1 σ.2.1 (i + 1) i then tMv i (tSw σ (i + 1) i) else σ
def tLs (tc : Nat → Int64) : Nat → Nat
  | 0 => 0
  | j + 1 => if tc j = tc (j + 1) then tLs tc j else j + 1
theorem tLs_le (tc : Nat → Int64) : ∀ j, tLs tc j ≤ j
  | 0 => Nat.le_refl _
  | j + 1 => by
    unfold tLs
    split
    · have := tLs_le tc j; omega
    · exact Nat.le_refl _
section TRK
variable {l : Launch} {X : aX} {tk : Nat → Int32} {tc te : Nat → Int64} {m : Nat}
theorem c_X5_init : aWr l X mX5_init [0] [.ref 0] [aOb 5 [.null, .null, .null, .int 0]] none (aTr (fun _ => 0) (fun _ => 0) (fun _ => 0) 0) := by
  refine aMt.of (by decide) rfl (Nat.le_of_ble_eq_true rfl) ?_
  refine a_aload_n dX5_init_0 rfl ?_
  refine a_objInit ml_X5_3 oi_iv oi_cd dX5_init_1 (by decide) (Nat.le_of_ble_eq_true rfl) ?_
  refine a_aload_n dX5_init_4 rfl ?_
  refine a_bipush 8 dX5_init_5 (by decide) ?_
  refine a_newi 8 ar_int (by decide) (by decide) (by decide) dX5_init_7 rfl (by decide) (by decide) ?_
  refine a_putF fp_X5_9 rfl dX5_init_9 rfl (Nat.le_of_ble_eq_true rfl) (fun _ => ⟨rfl, rfl⟩) ?_
  refine a_aload_n dX5_init_12 rfl ?_
  refine a_bipush 8 dX5_init_13 (by decide) ?_
  refine a_newl 8 ar_long (by decide) (by decide) (by decide) dX5_init_15 rfl (by decide) (by decide) ?_
  refine a_putF fp_X5_15 rfl dX5_init_17 rfl (Nat.le_of_ble_eq_true rfl) (fun _ => ⟨rfl, rfl⟩) ?_
  refine a_aload_n dX5_init_20 rfl ?_
  refine a_bipush 8 dX5_init_21 (by decide) ?_
  refine a_newl 8 ar_long (by decide) (by decide) (by decide) dX5_init_23 rfl (by decide) (by decide) ?_
  refine a_putF fp_X5_19 rfl dX5_init_25 rfl (Nat.le_of_ble_eq_true rfl) (fun _ => ⟨rfl, rfl⟩) ?_
  refine a_aload_n dX5_init_28 rfl ?_
  refine a_iconst 0 dX5_init_29 (by decide) ?_
  refine a_put fp_X5_22 dX5_init_30 rfl (Nat.le_of_ble_eq_true rfl) (fun _ => ⟨rfl, rfl⟩) ?_
  refine a_vret rfl dX5_init_33 (by decide) (by decide) ?_
  exact ⟨rfl, rfl⟩
theorem c_X5_clear : aWr l X mX5_clear rs4 [.ref 0] (aTr tk tc te m) none (aTr tk tc te 0) := by
  refine aMt.of (by decide) rfl (Nat.le_of_ble_eq_true rfl) ?_
  refine a_aload_n dX5_clear_0 rfl ?_
  refine a_iconst 0 dX5_clear_1 (by decide) ?_
  refine a_put fp_X5_22 dX5_clear_2 rfl (Nat.le_of_ble_eq_true rfl) (fun _ => ⟨rfl, rfl⟩) ?_
  refine a_vret rfl dX5_clear_5 (by decide) (by decide) ?_
  exact ⟨rfl, rfl⟩
theorem c_X5_size : aRd l X mX5_size rs4 [.ref 0] (aTr tk tc te m) (.int (nI m)) := by
  refine aMt.of (by decide) rfl (Nat.le_of_ble_eq_true rfl) ?_
  refine a_aload_n dX5_size_0 rfl ?_
  refine a_get fl_X5_22 dX5_size_1 rfl rfl ?_
  refine a_iret rfl dX5_size_4 (by decide) (by decide) ?_
  exact ⟨rfl, rfl⟩
theorem c_X5_has (e : Int32) : aRd l X mX5_has rs4 [.ref 0, .int e] (aTr tk tc te m) (.int (bI (tHs m e))) := by
  refine aMt.of (by decide) rfl (Nat.le_of_ble_eq_true rfl) ?_
  refine a_iload_n dX5_has_0 rfl ?_
  refine a_if_lt 22 dX5_has_1 (by decide) (fun c1 => ?_) (fun c1 => ?_)
  · refine a_iconst 0 dX5_has_22 (by decide) ?_
    refine a_zret rfl rfl dX5_has_23 (by decide) (by decide) ?_
    exact ⟨by simp [tHs, c1, bI], rfl⟩
  · refine a_iload_n dX5_has_4 rfl ?_
    refine a_aload_n dX5_has_5 rfl ?_
    refine a_get fl_X5_22 dX5_has_6 rfl rfl ?_
    refine a_icmp_ge 22 dX5_has_9 (by decide) (fun c9 => ?_) (fun c9 => ?_)
    · refine a_iconst 0 dX5_has_22 (by decide) ?_
      refine a_zret rfl rfl dX5_has_23 (by decide) (by decide) ?_
      exact ⟨by simp [tHs, c1, c9, bI], rfl⟩
    · refine a_iload_n dX5_has_12 rfl ?_
      refine a_bipush 8 dX5_has_13 (by decide) ?_
      refine a_icmp_ge 22 dX5_has_15 (by decide) (fun c15 => ?_) (fun c15 => ?_)
      · refine a_iconst 0 dX5_has_22 (by decide) ?_
        refine a_zret rfl rfl dX5_has_23 (by decide) (by decide) ?_
        exact ⟨by simp [tHs, c1, c9, c15, bI], rfl⟩
      · refine a_iconst 1 dX5_has_18 (by decide) ?_
        refine a_goto 23 dX5_has_19 (by decide) ?_
        refine a_zret rfl rfl dX5_has_23 (by decide) (by decide) ?_
        exact ⟨by simp [tHs, c1, c9, c15, bI], rfl⟩
theorem c_X5_key (e : Int32) : aRd l X mX5_key rs4 [.ref 0, .int e] (aTr tk tc te m) (.int (if tHs m e then tk e.toNatClampNeg else -1)) := by
  refine aMt.of (by decide) rfl (Nat.le_of_ble_eq_true rfl) ?_
  refine a_aload_n dX5_key_0 rfl ?_
  refine a_iload_n dX5_key_1 rfl ?_
  refine a_ViR [0, 1, 2, 3] k_X5_key_26 (c_X5_has (tk := tk) (tc := tc) (te := te) (m := m) e) dX5_key_2 rfl rfl rfl rfl rfl rfl (Nat.le_of_ble_eq_true rfl) ⟨Nat.le_of_ble_eq_true rfl, Nat.le_of_ble_eq_true rfl⟩ ⟨rfl, rfl⟩ ?_
  refine a_if_eq 17 dX5_key_5 (by decide) (fun c5 => ?_) (fun c5 => ?_)
  · refine a_iconst (-1) dX5_key_17 (by decide) ?_
    refine a_iret rfl dX5_key_18 (by decide) (by decide) ?_
    exact ⟨by simp [bI_0 c5], rfl⟩
  · refine a_aload_n dX5_key_8 rfl ?_
    refine a_get fl_X5_9 dX5_key_9 rfl rfl ?_
    refine a_iload_n dX5_key_12 rfl ?_
    refine a_iald dX5_key_13 rfl (tHs_in (bI_1 c5)) ?_
    refine a_goto 18 dX5_key_14 (by decide) ?_
    refine a_iret rfl dX5_key_18 (by decide) (by decide) ?_
    exact ⟨by simp [bI_1 c5], rfl⟩
theorem c_X5_counted (e : Int32) : aRd l X mX5_counted rs4 [.ref 0, .int e] (aTr tk tc te m) (.long (if tHs m e then tc e.toNatClampNeg else 0)) := by
  refine aMt.of (by decide) rfl (Nat.le_of_ble_eq_true rfl) ?_
  refine a_aload_n dX5_counted_0 rfl ?_
  refine a_iload_n dX5_counted_1 rfl ?_
  refine a_ViR [0, 1, 2, 3] k_X5_counted_26 (c_X5_has (tk := tk) (tc := tc) (te := te) (m := m) e) dX5_counted_2 rfl rfl rfl rfl rfl rfl (Nat.le_of_ble_eq_true rfl) ⟨Nat.le_of_ble_eq_true rfl, Nat.le_of_ble_eq_true rfl⟩ ⟨rfl, rfl⟩ ?_
  refine a_if_eq 17 dX5_counted_5 (by decide) (fun c5 => ?_) (fun c5 => ?_)
  · refine a_lconst 0 dX5_counted_17 (by decide) ?_
    refine a_lret rfl dX5_counted_18 (by decide) (by decide) ?_
    exact ⟨by simp [bI_0 c5], rfl⟩
  · refine a_aload_n dX5_counted_8 rfl ?_
    refine a_get fl_X5_15 dX5_counted_9 rfl rfl ?_
    refine a_iload_n dX5_counted_12 rfl ?_
    refine a_lald dX5_counted_13 rfl (tHs_in (bI_1 c5)) ?_
    refine a_goto 18 dX5_counted_14 (by decide) ?_
    refine a_lret rfl dX5_counted_18 (by decide) (by decide) ?_
    exact ⟨by simp [bI_1 c5], rfl⟩
theorem c_X5_error (e : Int32) : aRd l X mX5_error rs4 [.ref 0, .int e] (aTr tk tc te m) (.long (if tHs m e then te e.toNatClampNeg else 0)) := by
  refine aMt.of (by decide) rfl (Nat.le_of_ble_eq_true rfl) ?_
  refine a_aload_n dX5_error_0 rfl ?_
  refine a_iload_n dX5_error_1 rfl ?_
  refine a_ViR [0, 1, 2, 3] k_X5_error_26 (c_X5_has (tk := tk) (tc := tc) (te := te) (m := m) e) dX5_error_2 rfl rfl rfl rfl rfl rfl (Nat.le_of_ble_eq_true rfl) ⟨Nat.le_of_ble_eq_true rfl, Nat.le_of_ble_eq_true rfl⟩ ⟨rfl, rfl⟩ ?_
  refine a_if_eq 17 dX5_error_5 (by decide) (fun c5 => ?_) (fun c5 => ?_)
  · refine a_lconst 0 dX5_error_17 (by decide) ?_
    refine a_lret rfl dX5_error_18 (by decide) (by decide) ?_
    exact ⟨by simp [bI_0 c5], rfl⟩
  · refine a_aload_n dX5_error_8 rfl ?_
    refine a_get fl_X5_19 dX5_error_9 rfl rfl ?_
    refine a_iload_n dX5_error_12 rfl ?_
    refine a_lald dX5_error_13 rfl (tHs_in (bI_1 c5)) ?_
    refine a_goto 18 dX5_error_14 (by decide) ?_
    refine a_lret rfl dX5_error_18 (by decide) (by decide) ?_
    exact ⟨by simp [bI_1 c5], rfl⟩
theorem c_X5_counted_j {j : Nat} (hj : j < m) (hm : m ≤ 8) : aRd l X mX5_counted rs4 [.ref 0, .int (nI j)] (aTr tk tc te m) (.long (tc j)) := by
  have := c_X5_counted (l := l) (X := X) (tk := tk) (tc := tc) (te := te) (m := m) (nI j)
  rw [tHs_j hj hm, cl8 (by omega)] at this
  exact this
theorem c_X5_key_j {j : Nat} (hj : j < m) (hm : m ≤ 8) : aRd l X mX5_key rs4 [.ref 0, .int (nI j)] (aTr tk tc te m) (.int (tk j)) := by
  have := c_X5_key (l := l) (X := X) (tk := tk) (tc := tc) (te := te) (m := m) (nI j)
  rw [tHs_j hj hm, cl8 (by omega)] at this
  exact this
theorem c_X5_find (hm : m ≤ 8) (key : Int32) : aRd l X mX5_find rs4 [.ref 0, .int key] (aTr tk tc te m) (.int (oI (aFo (fun j => decide (tk j = key)) m 0))) := by
  refine aMt.of (by decide) rfl (Nat.le_of_ble_eq_true rfl) ?_
  generalize hr : aFo (fun j => decide (tk j = key)) m 0 = r
  refine a_iconst 0 dX5_find_0 (by decide) ?_
  refine a_istore_n dX5_find_1 (by decide) rfl ?_
  have lp : ∀ (k j : Nat), j + k = m → aFo (fun j => decide (tk j = key)) k j = r → aJ l X mX5_find (aEd X mX5_find rs4 (fun o h' => o = .inl (some (.int (oI r))) ∧ h' = aTr tk tc te m)) 0 0 2 [.ref 0, .int key, .int (nI j)] [] (aTr tk tc te m) := by
    intro k
    induction k with
    | zero =>
      intro j hj hq
      obtain rfl : j = m := by omega
      refine a_iload_n dX5_find_2 rfl ?_
      refine a_aload_n dX5_find_3 rfl ?_
      refine a_get fl_X5_22 dX5_find_4 rfl rfl ?_
      refine a_icmp_ge 28 dX5_find_7 (by decide) (fun _ => ?_) (fun z => absurd (nI_le (Nat.le_refl j) (by omega)) z)
      refine a_iconst (-1) dX5_find_28 (by decide) ?_
      refine a_iret rfl dX5_find_29 (by decide) (by decide) ?_
      exact ⟨by rw [← hq]; rfl, rfl⟩
    | succ k ih =>
      intro j hj hq
      refine a_iload_n dX5_find_2 rfl ?_
      refine a_aload_n dX5_find_3 rfl ?_
      refine a_get fl_X5_22 dX5_find_4 rfl rfl ?_
      refine a_icmp_ge 28 dX5_find_7 (by decide) (fun z => absurd z (nI_ge (by omega) (by omega))) (fun _ => ?_)
      refine a_aload_n dX5_find_10 rfl ?_
      refine a_get fl_X5_9 dX5_find_11 rfl rfl ?_
      refine a_iload_n dX5_find_14 rfl ?_
      refine a_iald dX5_find_15 rfl (in8 (by omega)) ?_
      refine a_iload_n dX5_find_16 rfl ?_
      refine a_icmp_ne 22 dX5_find_17 (by decide) (fun c17 => ?_) (fun c17 => ?_)
      · rw [cl8 (by omega)] at c17
        refine a_iinc (nI (j + 1)) dX5_find_22 rfl (nI_1 _) (by decide) rfl ?_
        refine a_goto 2 dX5_find_25 (by decide) ?_
        exact ih (j + 1) (by omega) (by rw [← hq]; simp [aFo, c17])
      · rw [cl8 (by omega)] at c17
        refine a_iload_n dX5_find_20 rfl ?_
        refine a_iret rfl dX5_find_21 (by decide) (by decide) ?_
        exact ⟨by rw [← hq]; simp [aFo, c17, oI], rfl⟩
  exact lp m 0 (by omega) hr
theorem c_X5_append (hm : m < 8) (key : Int32) : aWr l X mX5_append rs4 [.ref 0, .int key] (aTr tk tc te m) (some (.int (nI m))) (aTr (upd tk m key) (vp_updL tc m 0) (vp_updL te m 0) (m + 1)) := by
  refine aMt.of (by decide) rfl (Nat.le_of_ble_eq_true rfl) ?_
  have hi : vp_in (nI m) 8 := in8 hm
  refine a_aload_n dX5_append_0 rfl ?_
  refine a_get fl_X5_22 dX5_append_1 rfl rfl ?_
  refine a_istore_n dX5_append_4 (by decide) rfl ?_
  refine a_iload_n dX5_append_5 rfl ?_
  refine a_if_lt 15 dX5_append_6 (by decide) (fun z => absurd z (nI_pos (by omega))) (fun _ => ?_)
  refine a_iload_n dX5_append_9 rfl ?_
  refine a_bipush 8 dX5_append_10 (by decide) ?_
  refine a_icmp_lt 17 dX5_append_12 (by decide) (fun _ => ?_) (fun z => absurd (nI_lt (b := 8) hm (by decide)) z)
  refine a_aload_n dX5_append_17 rfl ?_
  refine a_get fl_X5_9 dX5_append_18 rfl rfl ?_
  refine a_iload_n dX5_append_21 rfl ?_
  refine a_iload_n dX5_append_22 rfl ?_
  refine a_iast dX5_append_23 rfl (by assumption) ?_
  refine a_aload_n dX5_append_24 rfl ?_
  refine a_get fl_X5_15 dX5_append_25 rfl rfl ?_
  refine a_iload_n dX5_append_28 rfl ?_
  refine a_lconst 0 dX5_append_29 (by decide) ?_
  refine a_last dX5_append_30 rfl (by assumption) ?_
  refine a_aload_n dX5_append_31 rfl ?_
  refine a_get fl_X5_19 dX5_append_32 rfl rfl ?_
  refine a_iload_n dX5_append_35 rfl ?_
  refine a_lconst 0 dX5_append_36 (by decide) ?_
  refine a_last dX5_append_37 rfl (by assumption) ?_
  refine a_aload_n dX5_append_38 rfl ?_
  refine a_dup dX5_append_39 rfl ?_
  refine a_get fl_X5_22 dX5_append_40 rfl rfl ?_
  refine a_iconst 1 dX5_append_43 (by decide) ?_
  refine a_iadd dX5_append_44 ?_
  refine a_put fp_X5_22 dX5_append_45 rfl (Nat.le_of_ble_eq_true rfl) (fun _ => ⟨rfl, rfl⟩) ?_
  refine a_iload_n dX5_append_48 rfl ?_
  refine a_iret rfl dX5_append_49 (by decide) (by decide) ?_
  refine ⟨rfl, ?_⟩
  rw [cl8 hm, nI_1]
  rfl
theorem c_X5_least (hm : m ≤ 8) (h0 : 0 < m) : aRd l X mX5_least rs4 [.ref 0] (aTr tk tc te m) (.int (nI (tLs tc (m - 1)))) := by
  refine aMt.of (by decide) rfl (Nat.le_of_ble_eq_true rfl) ?_
  generalize hr : tLs tc (m - 1) = r
  refine a_aload_n dX5_least_0 rfl ?_
  refine a_get fl_X5_22 dX5_least_1 rfl rfl ?_
  refine a_iconst 1 dX5_least_4 (by decide) ?_
  refine a_isub dX5_least_5 ?_
  refine a_istore_n dX5_least_6 (by decide) rfl ?_
  have lp : ∀ (j : Nat), j < m → tLs tc j = r → aJ l X mX5_least (aEd X mX5_least rs4 (fun o h' => o = .inl (some (.int (nI r))) ∧ h' = aTr tk tc te m)) 0 0 7 [.ref 0, .int (nI j)] [] (aTr tk tc te m) := by
    intro j
    induction j with
    | zero =>
      intro hj hq
      refine a_iload_n dX5_least_7 rfl ?_
      refine a_if_le 33 dX5_least_8 (by decide) (fun _ => ?_) (fun z => absurd (by decide) z)
      refine a_iload_n dX5_least_33 rfl ?_
      refine a_iret rfl dX5_least_34 (by decide) (by decide) ?_
      exact ⟨by rw [← hq]; rfl, rfl⟩
    | succ j ih =>
      intro hj hq
      refine a_iload_n dX5_least_7 rfl ?_
      refine a_if_le 33 dX5_least_8 (by decide) (fun z => absurd z (nI_nle (by omega) (by omega))) (fun _ => ?_)
      refine a_aload_n dX5_least_11 rfl ?_
      refine a_iload_n dX5_least_12 rfl ?_
      refine a_iconst 1 dX5_least_13 (by decide) ?_
      refine a_isub dX5_least_14 ?_
      rw [nI_pred]
      refine a_VlR [0, 1, 2, 3] k_X5_least_48 (c_X5_counted_j (tk := tk) (tc := tc) (te := te) (j := j) (by omega) hm) dX5_least_15 rfl rfl rfl rfl rfl rfl (Nat.le_of_ble_eq_true rfl) ⟨Nat.le_of_ble_eq_true rfl, Nat.le_of_ble_eq_true rfl⟩ ⟨rfl, rfl⟩ ?_
      refine a_aload_n dX5_least_18 rfl ?_
      refine a_iload_n dX5_least_19 rfl ?_
      refine a_VlR [0, 1, 2, 3] k_X5_least_48 (c_X5_counted_j (tk := tk) (tc := tc) (te := te) (j := j + 1) hj hm) dX5_least_20 rfl rfl rfl rfl rfl rfl (Nat.le_of_ble_eq_true rfl) ⟨Nat.le_of_ble_eq_true rfl, Nat.le_of_ble_eq_true rfl⟩ ⟨rfl, rfl⟩ ?_
      refine a_lcmp dX5_least_23 ?_
      refine a_if_ne 33 dX5_least_24 (by decide) (fun c24 => ?_) (fun c24 => ?_)
      · rw [lg_cmp_eq] at c24
        refine a_iload_n dX5_least_33 rfl ?_
        refine a_iret rfl dX5_least_34 (by decide) (by decide) ?_
        exact ⟨by rw [← hq]; simp [tLs, c24], rfl⟩
      · rw [lg_cmp_eq] at c24
        refine a_iinc (nI j) dX5_least_27 rfl (pk_m1 _) (by decide) rfl ?_
        refine a_goto 7 dX5_least_30 (by decide) ?_
        exact ih (by omega) (by rw [← hq]; simp [tLs, c24])
  obtain ⟨z, rfl⟩ : ∃ z, m = z + 1 := ⟨m - 1, by omega⟩
  rw [nI_pred]
  exact lp z (by omega) hr
theorem c_X5_replaceLeast (hm : m ≤ 8) (h0 : 0 < m) (key : Int32) : aWr l X mX5_replaceLeast rs4 [.ref 0, .int key] (aTr tk tc te m) (some (.int (nI (tLs tc (m - 1))))) (aTr (upd tk (tLs tc (m - 1)) key) tc (vp_updL te (tLs tc (m - 1)) (tc (tLs tc (m - 1)))) m) := by
  refine aMt.of (by decide) rfl (Nat.le_of_ble_eq_true rfl) ?_
  have hi : vp_in (nI (tLs tc (m - 1))) 8 := in8 (by have := tLs_le tc (m - 1); omega)
  have hj : tLs tc (m - 1) < m := by have := tLs_le tc (m - 1); omega
  refine a_aload_n dX5_replaceLeast_0 rfl ?_
  refine a_ViR [0, 1, 2, 3] k_X5_replaceLeast_44 (c_X5_least (tk := tk) (tc := tc) (te := te) hm h0) dX5_replaceLeast_1 rfl rfl rfl rfl rfl rfl (Nat.le_of_ble_eq_true rfl) ⟨Nat.le_of_ble_eq_true rfl, Nat.le_of_ble_eq_true rfl⟩ ⟨rfl, rfl⟩ ?_
  refine a_istore_n dX5_replaceLeast_4 (by decide) rfl ?_
  refine a_aload_n dX5_replaceLeast_5 rfl ?_
  refine a_iload_n dX5_replaceLeast_6 rfl ?_
  refine a_ViR [0, 1, 2, 3] k_X5_replaceLeast_26 (c_X5_has (tk := tk) (tc := tc) (te := te) (m := m) _) dX5_replaceLeast_7 rfl rfl rfl rfl rfl rfl (Nat.le_of_ble_eq_true rfl) ⟨Nat.le_of_ble_eq_true rfl, Nat.le_of_ble_eq_true rfl⟩ ⟨rfl, rfl⟩ ?_
  refine a_if_eq 32 dX5_replaceLeast_10 (by decide) (fun c10 => ?_) (fun c10 => ?_)
  · exact absurd (bI_0 c10) (by rw [tHs_j hj hm]; decide)
  · refine a_aload_n dX5_replaceLeast_13 rfl ?_
    refine a_get fl_X5_9 dX5_replaceLeast_14 rfl rfl ?_
    refine a_iload_n dX5_replaceLeast_17 rfl ?_
    refine a_iload_n dX5_replaceLeast_18 rfl ?_
    refine a_iast dX5_replaceLeast_19 rfl (by assumption) ?_
    refine a_aload_n dX5_replaceLeast_20 rfl ?_
    refine a_get fl_X5_19 dX5_replaceLeast_21 rfl rfl ?_
    refine a_iload_n dX5_replaceLeast_24 rfl ?_
    refine a_aload_n dX5_replaceLeast_25 rfl ?_
    refine a_get fl_X5_15 dX5_replaceLeast_26 rfl rfl ?_
    refine a_iload_n dX5_replaceLeast_29 rfl ?_
    refine a_lald dX5_replaceLeast_30 rfl (by assumption) ?_
    refine a_last dX5_replaceLeast_31 rfl (by assumption) ?_
    refine a_iload_n dX5_replaceLeast_32 rfl ?_
    refine a_iret rfl dX5_replaceLeast_33 (by decide) (by decide) ?_
    refine ⟨rfl, ?_⟩
    rw [cl8 (by omega)]
    rfl
theorem c_X5_isListedBefore {a b : Nat} (ha : a < m) (hb : b < m) (hm : m ≤ 8) : aRd l X mX5_isListedBefore rs4 [.ref 0, .int (nI a), .int (nI b)] (aTr tk tc te m) (.int (bI (tLb tk tc a b))) := by
  refine aMt.of (by decide) rfl (Nat.le_of_ble_eq_true rfl) ?_
  refine a_aload_n dX5_isListedBefore_0 rfl ?_
  refine a_iload_n dX5_isListedBefore_1 rfl ?_
  refine a_VlR [0, 1, 2, 3] k_X5_isListedBefore_48 (c_X5_counted_j (tk := tk) (tc := tc) (te := te) ha hm) dX5_isListedBefore_2 rfl rfl rfl rfl rfl rfl (Nat.le_of_ble_eq_true rfl) ⟨Nat.le_of_ble_eq_true rfl, Nat.le_of_ble_eq_true rfl⟩ ⟨rfl, rfl⟩ ?_
  refine a_lstore_n dX5_isListedBefore_5 (by decide) rfl ?_
  refine a_aload_n dX5_isListedBefore_6 rfl ?_
  refine a_iload_n dX5_isListedBefore_7 rfl ?_
  refine a_VlR [0, 1, 2, 3] k_X5_isListedBefore_48 (c_X5_counted_j (tk := tk) (tc := tc) (te := te) hb hm) dX5_isListedBefore_8 rfl rfl rfl rfl rfl rfl (Nat.le_of_ble_eq_true rfl) ⟨Nat.le_of_ble_eq_true rfl, Nat.le_of_ble_eq_true rfl⟩ ⟨rfl, rfl⟩ ?_
  refine a_lstore dX5_isListedBefore_11 (by decide) rfl ?_
  refine a_lload_n dX5_isListedBefore_13 rfl ?_
  refine a_lload dX5_isListedBefore_14 rfl ?_
  refine a_lcmp dX5_isListedBefore_16 ?_
  refine a_if_gt 40 dX5_isListedBefore_17 (by decide) (fun c17 => ?_) (fun c17 => ?_)
  · rw [lg_cmp_gt] at c17
    refine a_iconst 1 dX5_isListedBefore_40 (by decide) ?_
    refine a_goto 45 dX5_isListedBefore_41 (by decide) ?_
    refine a_zret rfl rfl dX5_isListedBefore_45 (by decide) (by decide) ?_
    exact ⟨by simp [tLb, c17, bI], rfl⟩
  · rw [lg_cmp_gt] at c17
    refine a_lload_n dX5_isListedBefore_20 rfl ?_
    refine a_lload dX5_isListedBefore_21 rfl ?_
    refine a_lcmp dX5_isListedBefore_23 ?_
    refine a_if_ne 44 dX5_isListedBefore_24 (by decide) (fun c24 => ?_) (fun c24 => ?_)
    · rw [lg_cmp_eq] at c24
      refine a_iconst 0 dX5_isListedBefore_44 (by decide) ?_
      refine a_zret rfl rfl dX5_isListedBefore_45 (by decide) (by decide) ?_
      exact ⟨by simp [tLb, c17, c24, bI], rfl⟩
    · rw [lg_cmp_eq] at c24
      refine a_aload_n dX5_isListedBefore_27 rfl ?_
      refine a_iload_n dX5_isListedBefore_28 rfl ?_
      refine a_ViR [0, 1, 2, 3] k_X5_isListedBefore_60 (c_X5_key_j (tk := tk) (tc := tc) (te := te) ha hm) dX5_isListedBefore_29 rfl rfl rfl rfl rfl rfl (Nat.le_of_ble_eq_true rfl) ⟨Nat.le_of_ble_eq_true rfl, Nat.le_of_ble_eq_true rfl⟩ ⟨rfl, rfl⟩ ?_
      refine a_aload_n dX5_isListedBefore_32 rfl ?_
      refine a_iload_n dX5_isListedBefore_33 rfl ?_
      refine a_ViR [0, 1, 2, 3] k_X5_isListedBefore_60 (c_X5_key_j (tk := tk) (tc := tc) (te := te) hb hm) dX5_isListedBefore_34 rfl rfl rfl rfl rfl rfl (Nat.le_of_ble_eq_true rfl) ⟨Nat.le_of_ble_eq_true rfl, Nat.le_of_ble_eq_true rfl⟩ ⟨rfl, rfl⟩ ?_
      refine a_icmp_ge 44 dX5_isListedBefore_37 (by decide) (fun c37 => ?_) (fun c37 => ?_)
      · refine a_iconst 0 dX5_isListedBefore_44 (by decide) ?_
        refine a_zret rfl rfl dX5_isListedBefore_45 (by decide) (by decide) ?_
        exact ⟨by simp [tLb, c17, c37, bI], rfl⟩
      · refine a_iconst 1 dX5_isListedBefore_40 (by decide) ?_
        refine a_goto 45 dX5_isListedBefore_41 (by decide) ?_
        refine a_zret rfl rfl dX5_isListedBefore_45 (by decide) (by decide) ?_
        exact ⟨by simp [tLb, c24, c37, bI], rfl⟩
theorem c_X5_swap {a b : Nat} (ha : a < m) (hb : b < m) (hab : a ≠ b) (hm : m ≤ 8) : aWr l X mX5_swap rs4 [.ref 0, .int (nI a), .int (nI b)] (aTr tk tc te m) none (aTr (tSw (tk, tc, te) a b).1 (tSw (tk, tc, te) a b).2.1 (tSw (tk, tc, te) a b).2.2 m) := by
  refine aMt.of (by decide) rfl (Nat.le_of_ble_eq_true rfl) ?_
  have hi : vp_in (nI a) 8 := in8 (by omega)
  have hi2 : vp_in (nI b) 8 := in8 (by omega)
  refine a_aload_n dX5_swap_0 rfl ?_
  refine a_iload_n dX5_swap_1 rfl ?_
  refine a_ViR [0, 1, 2, 3] k_X5_swap_26 (c_X5_has (tk := tk) (tc := tc) (te := te) (m := m) _) dX5_swap_2 rfl rfl rfl rfl rfl rfl (Nat.le_of_ble_eq_true rfl) ⟨Nat.le_of_ble_eq_true rfl, Nat.le_of_ble_eq_true rfl⟩ ⟨rfl, rfl⟩ ?_
  refine a_if_eq 98 dX5_swap_5 (by decide) (fun c5 => ?_) (fun c5 => ?_)
  · exact absurd (bI_0 c5) (by rw [tHs_j ha hm]; decide)
  · refine a_aload_n dX5_swap_8 rfl ?_
    refine a_iload_n dX5_swap_9 rfl ?_
    refine a_ViR [0, 1, 2, 3] k_X5_swap_26 (c_X5_has (tk := tk) (tc := tc) (te := te) (m := m) _) dX5_swap_10 rfl rfl rfl rfl rfl rfl (Nat.le_of_ble_eq_true rfl) ⟨Nat.le_of_ble_eq_true rfl, Nat.le_of_ble_eq_true rfl⟩ ⟨rfl, rfl⟩ ?_
    refine a_if_eq 98 dX5_swap_13 (by decide) (fun c13 => ?_) (fun c13 => ?_)
    · exact absurd (bI_0 c13) (by rw [tHs_j hb hm]; decide)
    · refine a_aload_n dX5_swap_16 rfl ?_
      refine a_get fl_X5_9 dX5_swap_17 rfl rfl ?_
      refine a_iload_n dX5_swap_20 rfl ?_
      refine a_iald dX5_swap_21 rfl (by assumption) ?_
      refine a_istore_n dX5_swap_22 (by decide) rfl ?_
      refine a_aload_n dX5_swap_23 rfl ?_
      refine a_get fl_X5_15 dX5_swap_24 rfl rfl ?_
      refine a_iload_n dX5_swap_27 rfl ?_
      refine a_lald dX5_swap_28 rfl (by assumption) ?_
      refine a_lstore dX5_swap_29 (by decide) rfl ?_
      refine a_aload_n dX5_swap_31 rfl ?_
      refine a_get fl_X5_19 dX5_swap_32 rfl rfl ?_
      refine a_iload_n dX5_swap_35 rfl ?_
      refine a_lald dX5_swap_36 rfl (by assumption) ?_
      refine a_lstore dX5_swap_37 (by decide) rfl ?_
      refine a_aload_n dX5_swap_39 rfl ?_
      refine a_get fl_X5_9 dX5_swap_40 rfl rfl ?_
      refine a_iload_n dX5_swap_43 rfl ?_
      refine a_aload_n dX5_swap_44 rfl ?_
      refine a_get fl_X5_9 dX5_swap_45 rfl rfl ?_
      refine a_iload_n dX5_swap_48 rfl ?_
      refine a_iald dX5_swap_49 rfl (by assumption) ?_
      refine a_iast dX5_swap_50 rfl (by assumption) ?_
      refine a_aload_n dX5_swap_51 rfl ?_
      refine a_get fl_X5_15 dX5_swap_52 rfl rfl ?_
      refine a_iload_n dX5_swap_55 rfl ?_
      refine a_aload_n dX5_swap_56 rfl ?_
      refine a_get fl_X5_15 dX5_swap_57 rfl rfl ?_
      refine a_iload_n dX5_swap_60 rfl ?_
      refine a_lald dX5_swap_61 rfl (by assumption) ?_
      refine a_last dX5_swap_62 rfl (by assumption) ?_
      refine a_aload_n dX5_swap_63 rfl ?_
      refine a_get fl_X5_19 dX5_swap_64 rfl rfl ?_
      refine a_iload_n dX5_swap_67 rfl ?_
      refine a_aload_n dX5_swap_68 rfl ?_
      refine a_get fl_X5_19 dX5_swap_69 rfl rfl ?_
      refine a_iload_n dX5_swap_72 rfl ?_
      refine a_lald dX5_swap_73 rfl (by assumption) ?_
      refine a_last dX5_swap_74 rfl (by assumption) ?_
      refine a_aload_n dX5_swap_75 rfl ?_
      refine a_get fl_X5_9 dX5_swap_76 rfl rfl ?_
      refine a_iload_n dX5_swap_79 rfl ?_
      refine a_iload_n dX5_swap_80 rfl ?_
      refine a_iast dX5_swap_81 rfl (by assumption) ?_
      refine a_aload_n dX5_swap_82 rfl ?_
      refine a_get fl_X5_15 dX5_swap_83 rfl rfl ?_
      refine a_iload_n dX5_swap_86 rfl ?_
      refine a_lload dX5_swap_87 rfl ?_
      refine a_last dX5_swap_89 rfl (by assumption) ?_
      refine a_aload_n dX5_swap_90 rfl ?_
      refine a_get fl_X5_19 dX5_swap_91 rfl rfl ?_
      refine a_iload_n dX5_swap_94 rfl ?_
      refine a_lload dX5_swap_95 rfl ?_
      refine a_last dX5_swap_97 rfl (by assumption) ?_
      refine a_vret rfl dX5_swap_98 (by decide) (by decide) ?_
      refine ⟨rfl, ?_⟩
      rw [cl8 (show a < 8 by omega), cl8 (show b < 8 by omega)]
      rfl
theorem c_X5_moveForward {i : Nat} (hi : i < m) (hm : m ≤ 8) : aWr l X mX5_moveForward rs4 [.ref 0, .int (nI i)] (aTr tk tc te m) none (aTr (tMv i (tk, tc, te)).1 (tMv i (tk, tc, te)).2.1 (tMv i (tk, tc, te)).2.2 m) := by
  refine aMt.of (by decide) rfl (Nat.le_of_ble_eq_true rfl) ?_
  generalize hr : tMv i (tk, tc, te) = r
  refine a_iload_n dX5_moveForward_0 rfl ?_
  refine a_istore_n dX5_moveForward_1 (by decide) rfl ?_
  have lp : ∀ (j : Nat) (σ : tT), j < m → tMv j σ = r → aJ l X mX5_moveForward (aEd X mX5_moveForward rs4 (fun o h' => o = .inl none ∧ h' = aTr r.1 r.2.1 r.2.2 m)) 0 0 2 [.ref 0, .int (nI i), .int (nI j)] [] (aTr σ.1 σ.2.1 σ.2.2 m) := by
    intro j
    induction j with
    | zero =>
      intro σ hj hq
      refine a_iload_n dX5_moveForward_2 rfl ?_
      refine a_if_le 31 dX5_moveForward_3 (by decide) (fun _ => ?_) (fun z => absurd (by decide) z)
      refine a_vret rfl dX5_moveForward_31 (by decide) (by decide) ?_
      exact ⟨rfl, by rw [← hq]; rfl⟩
    | succ j ih =>
      intro σ hj hq
      refine a_iload_n dX5_moveForward_2 rfl ?_
      refine a_if_le 31 dX5_moveForward_3 (by decide) (fun z => absurd z (nI_nle (by omega) (by omega))) (fun _ => ?_)
      refine a_aload_n dX5_moveForward_6 rfl ?_
      refine a_iload_n dX5_moveForward_7 rfl ?_
      refine a_iload_n dX5_moveForward_8 rfl ?_
      refine a_iconst 1 dX5_moveForward_9 (by decide) ?_
      refine a_isub dX5_moveForward_10 ?_
      rw [nI_pred]
      refine a_ViR [0, 1, 2, 3] k_X5_moveForward_52 (c_X5_isListedBefore (tk := σ.1) (tc := σ.2.1) (te := σ.2.2) hj (show j < m by omega) hm) dX5_moveForward_11 rfl rfl rfl rfl rfl rfl (Nat.le_of_ble_eq_true rfl) ⟨Nat.le_of_ble_eq_true rfl, Nat.le_of_ble_eq_true rfl⟩ ⟨rfl, rfl⟩ ?_
      refine a_if_eq 31 dX5_moveForward_14 (by decide) (fun c14 => ?_) (fun c14 => ?_)
      · refine a_vret rfl dX5_moveForward_31 (by decide) (by decide) ?_
        exact ⟨rfl, by rw [← hq]; simp [tMv, bI_0 c14]⟩
      · refine a_aload_n dX5_moveForward_17 rfl ?_
        refine a_iload_n dX5_moveForward_18 rfl ?_
        refine a_iload_n dX5_moveForward_19 rfl ?_
        refine a_iconst 1 dX5_moveForward_20 (by decide) ?_
        refine a_isub dX5_moveForward_21 ?_
        rw [nI_pred]
        refine a_VvW [0, 1, 2, 3] (aTr (tSw σ (j + 1) j).1 (tSw σ (j + 1) j).2.1 (tSw σ (j + 1) j).2.2 m) k_X5_moveForward_56 (c_X5_swap (tk := σ.1) (tc := σ.2.1) (te := σ.2.2) hj (show j < m by omega) (by omega) hm) dX5_moveForward_22 rfl rfl rfl rfl rfl rfl (Nat.le_of_ble_eq_true rfl) ⟨Nat.le_of_ble_eq_true rfl, Nat.le_of_ble_eq_true rfl⟩ ⟨rfl, rfl⟩ (Nat.le_of_ble_eq_true rfl) rfl ?_
        refine a_iinc (nI j) dX5_moveForward_25 rfl (pk_m1 _) (by decide) rfl ?_
        refine a_goto 2 dX5_moveForward_28 (by decide) ?_
        exact ih (tSw σ (j + 1) j) (by omega) (by rw [← hq]; simp [tMv, bI_1 c14])
  exact lp i (tk, tc, te) hi hr
/-- what counting n requests with a key does -/
def tAd (n : Int32) (i : Nat) (σ : tT) : tT := tMv i (σ.1, vp_updL σ.2.1 i (σ.2.1 i + n.toInt64), σ.2.2)
def tCt (key n : Int32) (σ : tT) (m : Nat) : tT × Nat := match aFo (fun j => decide (σ.1 j = key)) m 0 with
  | some i => (tAd n i σ, m)
  | none => if m < 8 then (tAd n m (upd σ.1 m key, vp_updL σ.2.1 m 0, vp_updL σ.2.2 m 0), m + 1) else (tAd n (tLs σ.2.1 (m - 1)) (upd σ.1 (tLs σ.2.1 (m - 1)) key, σ.2.1, vp_updL σ.2.2 (tLs σ.2.1 (m - 1)) (σ.2.1 (tLs σ.2.1 (m - 1)))), m)
theorem c_X5_count_end {i : Nat} (hi : i < m) (hm : m ≤ 8) (key n : Int32) {L0 : List Value} : aJ l X mX5_count (aEd X mX5_count rs4 (fun o h' => o = .inl none ∧ h' = aTr (tAd n i (tk, tc, te)).1 (tAd n i (tk, tc, te)).2.1 (tAd n i (tk, tc, te)).2.2 m)) 0 0 34 [.ref 0, .int key, .int n, .int (nI i)] [] (aTr tk tc te m) := by
  have hv : vp_in (nI i) 8 := in8 (by omega)
  refine a_aload_n dX5_count_34 rfl ?_
  refine a_iload_n dX5_count_35 rfl ?_
  refine a_ViR [0, 1, 2, 3] k_X5_count_26 (c_X5_has (tk := tk) (tc := tc) (te := te) (m := m) _) dX5_count_36 rfl rfl rfl rfl rfl rfl (Nat.le_of_ble_eq_true rfl) ⟨Nat.le_of_ble_eq_true rfl, Nat.le_of_ble_eq_true rfl⟩ ⟨rfl, rfl⟩ ?_
  refine a_if_eq 58 dX5_count_39 (by decide) (fun c39 => ?_) (fun c39 => ?_)
  · exact absurd (bI_0 c39) (by rw [tHs_j hi hm]; decide)
  · refine a_aload_n dX5_count_42 rfl ?_
    refine a_get fl_X5_15 dX5_count_43 rfl rfl ?_
    refine a_iload_n dX5_count_46 rfl ?_
    refine a_dup2 dX5_count_47 rfl rfl ?_
    refine a_lald dX5_count_48 rfl (by assumption) ?_
    refine a_iload_n dX5_count_49 rfl ?_
    refine a_i2l dX5_count_50 ?_
    refine a_ladd dX5_count_51 ?_
    refine a_last dX5_count_52 rfl (by assumption) ?_
    rw [cl8 (by omega)]
    refine a_aload_n dX5_count_53 rfl ?_
    refine a_iload_n dX5_count_54 rfl ?_
    refine a_VvW [0, 1, 2, 3] (aTr (tAd n i (tk, tc, te)).1 (tAd n i (tk, tc, te)).2.1 (tAd n i (tk, tc, te)).2.2 m) k_X5_count_40 (c_X5_moveForward (tk := tk) (tc := vp_updL tc i (tc i + n.toInt64)) (te := te) hi hm) dX5_count_55 rfl rfl rfl rfl rfl rfl (Nat.le_of_ble_eq_true rfl) ⟨Nat.le_of_ble_eq_true rfl, Nat.le_of_ble_eq_true rfl⟩ ⟨rfl, rfl⟩ (Nat.le_of_ble_eq_true rfl) rfl ?_
    refine a_vret rfl dX5_count_58 (by decide) (by decide) ?_
    exact ⟨rfl, rfl⟩
theorem c_X5_count (hm : m ≤ 8) (key n : Int32) : aWr l X mX5_count rs4 [.ref 0, .int key, .int n] (aTr tk tc te m) none (aTr (tCt key n (tk, tc, te) m).1.1 (tCt key n (tk, tc, te) m).1.2.1 (tCt key n (tk, tc, te) m).1.2.2 (tCt key n (tk, tc, te) m).2) := by
  refine aMt.of (by decide) rfl (Nat.le_of_ble_eq_true rfl) ?_
  cases hf : aFo (fun j => decide (tk j = key)) m 0 with
  | some i =>
    have hi := (aFo_some hf).2.1
    have hfd := c_X5_find (l := l) (X := X) (tk := tk) (tc := tc) (te := te) hm key
    rw [hf] at hfd
    have hr : tCt key n (tk, tc, te) m = (tAd n i (tk, tc, te), m) := by simp [tCt, hf]
    rw [hr]
    refine a_aload_n dX5_count_0 rfl ?_
    refine a_iload_n dX5_count_1 rfl ?_
    refine a_ViR [0, 1, 2, 3] k_X5_count_30 (hfd) dX5_count_2 rfl rfl rfl rfl rfl rfl (Nat.le_of_ble_eq_true rfl) ⟨Nat.le_of_ble_eq_true rfl, Nat.le_of_ble_eq_true rfl⟩ ⟨rfl, rfl⟩ ?_
    refine a_istore_n dX5_count_5 (by decide) rfl ?_
    refine a_iload_n dX5_count_6 rfl ?_
    refine a_iconst (-1) dX5_count_7 (by decide) ?_
    refine a_icmp_ne 34 dX5_count_8 (by decide) (fun _ => ?_) (fun z => absurd z (nI_m1 (by omega)))
    exact c_X5_count_end (L0 := []) (by omega) hm key n
  | none =>
    have hfd := c_X5_find (l := l) (X := X) (tk := tk) (tc := tc) (te := te) hm key
    rw [hf] at hfd
    rcases Nat.lt_or_ge m 8 with h8 | h8
    · have hr : tCt key n (tk, tc, te) m = (tAd n m (upd tk m key, vp_updL tc m 0, vp_updL te m 0), m + 1) := by simp [tCt, hf, h8]
      rw [hr]
      refine a_aload_n dX5_count_0 rfl ?_
      refine a_iload_n dX5_count_1 rfl ?_
      refine a_ViR [0, 1, 2, 3] k_X5_count_30 (hfd) dX5_count_2 rfl rfl rfl rfl rfl rfl (Nat.le_of_ble_eq_true rfl) ⟨Nat.le_of_ble_eq_true rfl, Nat.le_of_ble_eq_true rfl⟩ ⟨rfl, rfl⟩ ?_
      refine a_istore_n dX5_count_5 (by decide) rfl ?_
      refine a_iload_n dX5_count_6 rfl ?_
      refine a_iconst (-1) dX5_count_7 (by decide) ?_
      refine a_icmp_ne 34 dX5_count_8 (by decide) (fun z => absurd rfl z) (fun _ => ?_)
      refine a_aload_n dX5_count_11 rfl ?_
      refine a_get fl_X5_22 dX5_count_12 rfl rfl ?_
      refine a_bipush 8 dX5_count_15 (by decide) ?_
      refine a_icmp_ge 28 dX5_count_17 (by decide) (fun z => absurd z (ge8_f h8)) (fun _ => ?_)
      refine a_aload_n dX5_count_20 rfl ?_
      refine a_iload_n dX5_count_21 rfl ?_
      refine a_ViW [0, 1, 2, 3] (aTr (upd tk m key) (vp_updL tc m 0) (vp_updL te m 0) (m + 1)) k_X5_count_34 (c_X5_append (tk := tk) (tc := tc) (te := te) h8 key) dX5_count_22 rfl rfl rfl rfl rfl rfl (Nat.le_of_ble_eq_true rfl) ⟨Nat.le_of_ble_eq_true rfl, Nat.le_of_ble_eq_true rfl⟩ ⟨rfl, rfl⟩ (Nat.le_of_ble_eq_true rfl) rfl ?_
      refine a_goto 33 dX5_count_25 (by decide) ?_
      refine a_istore_n dX5_count_33 (by decide) rfl ?_
      exact c_X5_count_end (L0 := []) (by omega) (by omega) key n
    · obtain rfl : m = 8 := by omega
      have hr : tCt key n (tk, tc, te) 8 = (tAd n (tLs tc 7) (upd tk (tLs tc 7) key, tc, vp_updL te (tLs tc 7) (tc (tLs tc 7))), 8) := by simp [tCt, hf]
      rw [hr]
      have hl := tLs_le tc 7
      refine a_aload_n dX5_count_0 rfl ?_
      refine a_iload_n dX5_count_1 rfl ?_
      refine a_ViR [0, 1, 2, 3] k_X5_count_30 (hfd) dX5_count_2 rfl rfl rfl rfl rfl rfl (Nat.le_of_ble_eq_true rfl) ⟨Nat.le_of_ble_eq_true rfl, Nat.le_of_ble_eq_true rfl⟩ ⟨rfl, rfl⟩ ?_
      refine a_istore_n dX5_count_5 (by decide) rfl ?_
      refine a_iload_n dX5_count_6 rfl ?_
      refine a_iconst (-1) dX5_count_7 (by decide) ?_
      refine a_icmp_ne 34 dX5_count_8 (by decide) (fun z => absurd rfl z) (fun _ => ?_)
      refine a_aload_n dX5_count_11 rfl ?_
      refine a_get fl_X5_22 dX5_count_12 rfl rfl ?_
      refine a_bipush 8 dX5_count_15 (by decide) ?_
      refine a_icmp_ge 28 dX5_count_17 (by decide) (fun _ => ?_) (fun z => absurd (by decide) z)
      refine a_aload_n dX5_count_28 rfl ?_
      refine a_iload_n dX5_count_29 rfl ?_
      refine a_ViW [0, 1, 2, 3] (aTr (upd tk (tLs tc 7) key) tc (vp_updL te (tLs tc 7) (tc (tLs tc 7))) 8) k_X5_count_37 (c_X5_replaceLeast (tk := tk) (tc := tc) (te := te) (by decide) (by decide) key) dX5_count_30 rfl rfl rfl rfl rfl rfl (Nat.le_of_ble_eq_true rfl) ⟨Nat.le_of_ble_eq_true rfl, Nat.le_of_ble_eq_true rfl⟩ ⟨rfl, rfl⟩ (Nat.le_of_ble_eq_true rfl) rfl ?_
      refine a_istore_n dX5_count_33 (by decide) rfl ?_
      exact c_X5_count_end (L0 := []) (by omega) (by omega) key n
end TRK
