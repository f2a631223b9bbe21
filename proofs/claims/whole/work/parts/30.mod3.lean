/-! written by wip/whole/pp.py out of wip/whole/src/30.mod3.lean -/
theorem dX7_isPrime_0 : decode cX7_isPrime 0 = .ok (.iload_n 0, 1) := by decide +kernel
theorem dX7_isPrime_1 : decode cX7_isPrime 1 = .ok (.iconst 1, 1) := by decide +kernel
theorem dX7_isPrime_2 : decode cX7_isPrime 2 = .ok (.if_icmp .le 7, 3) := by decide +kernel
theorem dX7_isPrime_5 : decode cX7_isPrime 5 = .ok (.iconst 1, 1) := by decide +kernel
theorem dX7_isPrime_6 : decode cX7_isPrime 6 = .ok (.goto 4, 3) := by decide +kernel
theorem dX7_isPrime_9 : decode cX7_isPrime 9 = .ok (.iconst 0, 1) := by decide +kernel
theorem dX7_isPrime_10 : decode cX7_isPrime 10 = .ok (.istore_n 1, 1) := by decide +kernel
theorem dX7_isPrime_11 : decode cX7_isPrime 11 = .ok (.iconst 2, 1) := by decide +kernel
theorem dX7_isPrime_12 : decode cX7_isPrime 12 = .ok (.istore_n 2, 1) := by decide +kernel
theorem dX7_isPrime_13 : decode cX7_isPrime 13 = .ok (.iload_n 2, 1) := by decide +kernel
theorem dX7_isPrime_14 : decode cX7_isPrime 14 = .ok (.iload_n 2, 1) := by decide +kernel
theorem dX7_isPrime_15 : decode cX7_isPrime 15 = .ok (.imul, 1) := by decide +kernel
theorem dX7_isPrime_16 : decode cX7_isPrime 16 = .ok (.iload_n 0, 1) := by decide +kernel
theorem dX7_isPrime_17 : decode cX7_isPrime 17 = .ok (.if_icmp .gt 25, 3) := by decide +kernel
theorem dX7_isPrime_20 : decode cX7_isPrime 20 = .ok (.iload_n 1, 1) := by decide +kernel
theorem dX7_isPrime_21 : decode cX7_isPrime 21 = .ok (.ifCond .eq 13, 3) := by decide +kernel
theorem dX7_isPrime_24 : decode cX7_isPrime 24 = .ok (.iload_n 0, 1) := by decide +kernel
theorem dX7_isPrime_25 : decode cX7_isPrime 25 = .ok (.iload_n 2, 1) := by decide +kernel
theorem dX7_isPrime_26 : decode cX7_isPrime 26 = .ok (.irem, 1) := by decide +kernel
theorem dX7_isPrime_27 : decode cX7_isPrime 27 = .ok (.ifCond .eq 7, 3) := by decide +kernel
theorem dX7_isPrime_30 : decode cX7_isPrime 30 = .ok (.iconst 1, 1) := by decide +kernel
theorem dX7_isPrime_31 : decode cX7_isPrime 31 = .ok (.goto 4, 3) := by decide +kernel
theorem dX7_isPrime_34 : decode cX7_isPrime 34 = .ok (.iconst 0, 1) := by decide +kernel
theorem dX7_isPrime_35 : decode cX7_isPrime 35 = .ok (.istore_n 1, 1) := by decide +kernel
theorem dX7_isPrime_36 : decode cX7_isPrime 36 = .ok (.iinc 2 1, 3) := by decide +kernel
theorem dX7_isPrime_39 : decode cX7_isPrime 39 = .ok (.goto (-26), 3) := by decide +kernel
theorem dX7_isPrime_42 : decode cX7_isPrime 42 = .ok (.iload_n 1, 1) := by decide +kernel
theorem dX7_isPrime_43 : decode cX7_isPrime 43 = .ok (.ireturn, 1) := by decide +kernel
theorem dX7_reset_0 : decode cX7_reset 0 = .ok (.aload_n 0, 1) := by decide +kernel
theorem dX7_reset_1 : decode cX7_reset 1 = .ok (.iload_n 1, 1) := by decide +kernel
theorem dX7_reset_2 : decode cX7_reset 2 = .ok (.i2l, 1) := by decide +kernel
theorem dX7_reset_3 : decode cX7_reset 3 = .ok (.ldc2_w 116, 3) := by decide +kernel
theorem dX7_reset_6 : decode cX7_reset 6 = .ok (.ldc2_w 118, 3) := by decide +kernel
theorem dX7_reset_9 : decode cX7_reset 9 = .ok (.invokestatic 93, 3) := by decide +kernel
theorem dX7_reset_12 : decode cX7_reset 12 = .ok (.ifCond .eq 10, 3) := by decide +kernel
theorem dX7_reset_15 : decode cX7_reset 15 = .ok (.iload_n 1, 1) := by decide +kernel
theorem dX7_reset_16 : decode cX7_reset 16 = .ok (.invokestatic 120, 3) := by decide +kernel
theorem dX7_reset_19 : decode cX7_reset 19 = .ok (.ifCond .ne 7, 3) := by decide +kernel
theorem dX7_reset_22 : decode cX7_reset 22 = .ok (.iconst 1, 1) := by decide +kernel
theorem dX7_reset_23 : decode cX7_reset 23 = .ok (.goto 4, 3) := by decide +kernel
theorem dX7_reset_26 : decode cX7_reset 26 = .ok (.iconst 0, 1) := by decide +kernel
theorem dX7_reset_27 : decode cX7_reset 27 = .ok (.iconst 0, 1) := by decide +kernel
theorem dX7_reset_28 : decode cX7_reset 28 = .ok (.invokevirtual 124, 3) := by decide +kernel
theorem dX7_reset_31 : decode cX7_reset 31 = .ok (.ifCond .eq 5, 3) := by decide +kernel
theorem dX7_reset_34 : decode cX7_reset 34 = .ok (.iconst 0, 1) := by decide +kernel
theorem dX7_reset_35 : decode cX7_reset 35 = .ok (.ireturn, 1) := by decide +kernel
theorem dX7_reset_36 : decode cX7_reset 36 = .ok (.aload_n 0, 1) := by decide +kernel
theorem dX7_reset_37 : decode cX7_reset 37 = .ok (.getfield 7, 3) := by decide +kernel
theorem dX7_reset_40 : decode cX7_reset 40 = .ok (.istore_n 2, 1) := by decide +kernel
theorem dX7_reset_41 : decode cX7_reset 41 = .ok (.aload_n 0, 1) := by decide +kernel
theorem dX7_reset_42 : decode cX7_reset 42 = .ok (.iload_n 1, 1) := by decide +kernel
theorem dX7_reset_43 : decode cX7_reset 43 = .ok (.invokevirtual 69, 3) := by decide +kernel
theorem dX7_reset_46 : decode cX7_reset 46 = .ok (.iload_n 2, 1) := by decide +kernel
theorem dX7_reset_47 : decode cX7_reset 47 = .ok (.ireturn, 1) := by decide +kernel
theorem dX7_serverAt_0 : decode cX7_serverAt 0 = .ok (.aload_n 0, 1) := by decide +kernel
theorem dX7_serverAt_1 : decode cX7_serverAt 1 = .ok (.iload_n 1, 1) := by decide +kernel
theorem dX7_serverAt_2 : decode cX7_serverAt 2 = .ok (.i2l, 1) := by decide +kernel
theorem dX7_serverAt_3 : decode cX7_serverAt 3 = .ok (.lconst 0, 1) := by decide +kernel
theorem dX7_serverAt_4 : decode cX7_serverAt 4 = .ok (.aload_n 0, 1) := by decide +kernel
theorem dX7_serverAt_5 : decode cX7_serverAt 5 = .ok (.getfield 7, 3) := by decide +kernel
theorem dX7_serverAt_8 : decode cX7_serverAt 8 = .ok (.iconst 1, 1) := by decide +kernel
theorem dX7_serverAt_9 : decode cX7_serverAt 9 = .ok (.isub, 1) := by decide +kernel
theorem dX7_serverAt_10 : decode cX7_serverAt 10 = .ok (.i2l, 1) := by decide +kernel
theorem dX7_serverAt_11 : decode cX7_serverAt 11 = .ok (.invokestatic 93, 3) := by decide +kernel
theorem dX7_serverAt_14 : decode cX7_serverAt 14 = .ok (.ifCond .ne 7, 3) := by decide +kernel
theorem dX7_serverAt_17 : decode cX7_serverAt 17 = .ok (.iconst 1, 1) := by decide +kernel
theorem dX7_serverAt_18 : decode cX7_serverAt 18 = .ok (.goto 4, 3) := by decide +kernel
theorem dX7_serverAt_21 : decode cX7_serverAt 21 = .ok (.iconst 0, 1) := by decide +kernel
theorem dX7_serverAt_22 : decode cX7_serverAt 22 = .ok (.iconst 0, 1) := by decide +kernel
theorem dX7_serverAt_23 : decode cX7_serverAt 23 = .ok (.invokevirtual 124, 3) := by decide +kernel
theorem dX7_serverAt_26 : decode cX7_serverAt 26 = .ok (.ifCond .eq 7, 3) := by decide +kernel
theorem dX7_serverAt_29 : decode cX7_serverAt 29 = .ok (.iconst 0, 1) := by decide +kernel
theorem dX7_serverAt_30 : decode cX7_serverAt 30 = .ok (.goto 9, 3) := by decide +kernel
theorem dX7_serverAt_33 : decode cX7_serverAt 33 = .ok (.aload_n 0, 1) := by decide +kernel
theorem dX7_serverAt_34 : decode cX7_serverAt 34 = .ok (.getfield 27, 3) := by decide +kernel
theorem dX7_serverAt_37 : decode cX7_serverAt 37 = .ok (.iload_n 1, 1) := by decide +kernel
theorem dX7_serverAt_38 : decode cX7_serverAt 38 = .ok (.iaload, 1) := by decide +kernel
theorem dX7_serverAt_39 : decode cX7_serverAt 39 = .ok (.ireturn, 1) := by decide +kernel
theorem dX7_disruption_0 : decode cX7_disruption 0 = .ok (.aload_n 0, 1) := by decide +kernel
theorem dX7_disruption_1 : decode cX7_disruption 1 = .ok (.iconst 0, 1) := by decide +kernel
theorem dX7_disruption_2 : decode cX7_disruption 2 = .ok (.putfield 73, 3) := by decide +kernel
theorem dX7_disruption_5 : decode cX7_disruption 5 = .ok (.aload_n 0, 1) := by decide +kernel
theorem dX7_disruption_6 : decode cX7_disruption 6 = .ok (.getfield 76, 3) := by decide +kernel
theorem dX7_disruption_9 : decode cX7_disruption 9 = .ok (.ireturn, 1) := by decide +kernel
theorem dX7_forcedDisruption_0 : decode cX7_forcedDisruption 0 = .ok (.aload_n 0, 1) := by decide +kernel
theorem dX7_forcedDisruption_1 : decode cX7_forcedDisruption 1 = .ok (.iconst 0, 1) := by decide +kernel
theorem dX7_forcedDisruption_2 : decode cX7_forcedDisruption 2 = .ok (.putfield 73, 3) := by decide +kernel
theorem dX7_forcedDisruption_5 : decode cX7_forcedDisruption 5 = .ok (.aload_n 0, 1) := by decide +kernel
theorem dX7_forcedDisruption_6 : decode cX7_forcedDisruption 6 = .ok (.getfield 79, 3) := by decide +kernel
theorem dX7_forcedDisruption_9 : decode cX7_forcedDisruption 9 = .ok (.ireturn, 1) := by decide +kernel
theorem dX7_slotsNow_0 : decode cX7_slotsNow 0 = .ok (.iconst 0, 1) := by decide +kernel
theorem dX7_slotsNow_1 : decode cX7_slotsNow 1 = .ok (.istore_n 2, 1) := by decide +kernel
theorem dX7_slotsNow_2 : decode cX7_slotsNow 2 = .ok (.iconst 0, 1) := by decide +kernel
theorem dX7_slotsNow_3 : decode cX7_slotsNow 3 = .ok (.istore_n 3, 1) := by decide +kernel
theorem dX7_slotsNow_4 : decode cX7_slotsNow 4 = .ok (.iload_n 3, 1) := by decide +kernel
theorem dX7_slotsNow_5 : decode cX7_slotsNow 5 = .ok (.aload_n 0, 1) := by decide +kernel
theorem dX7_slotsNow_6 : decode cX7_slotsNow 6 = .ok (.getfield 7, 3) := by decide +kernel
theorem dX7_slotsNow_9 : decode cX7_slotsNow 9 = .ok (.if_icmp .ge 27, 3) := by decide +kernel
theorem dX7_slotsNow_12 : decode cX7_slotsNow 12 = .ok (.iload_n 2, 1) := by decide +kernel
theorem dX7_slotsNow_13 : decode cX7_slotsNow 13 = .ok (.aload_n 0, 1) := by decide +kernel
theorem dX7_slotsNow_14 : decode cX7_slotsNow 14 = .ok (.getfield 27, 3) := by decide +kernel
theorem dX7_slotsNow_17 : decode cX7_slotsNow 17 = .ok (.iload_n 3, 1) := by decide +kernel
theorem dX7_slotsNow_18 : decode cX7_slotsNow 18 = .ok (.iaload, 1) := by decide +kernel
theorem dX7_slotsNow_19 : decode cX7_slotsNow 19 = .ok (.iload_n 1, 1) := by decide +kernel
theorem dX7_slotsNow_20 : decode cX7_slotsNow 20 = .ok (.if_icmp .ne 7, 3) := by decide +kernel
theorem dX7_slotsNow_23 : decode cX7_slotsNow 23 = .ok (.iconst 1, 1) := by decide +kernel
theorem dX7_slotsNow_24 : decode cX7_slotsNow 24 = .ok (.goto 4, 3) := by decide +kernel
theorem dX7_slotsNow_27 : decode cX7_slotsNow 27 = .ok (.iconst 0, 1) := by decide +kernel
theorem dX7_slotsNow_28 : decode cX7_slotsNow 28 = .ok (.iadd, 1) := by decide +kernel
theorem dX7_slotsNow_29 : decode cX7_slotsNow 29 = .ok (.istore_n 2, 1) := by decide +kernel
theorem dX7_slotsNow_30 : decode cX7_slotsNow 30 = .ok (.iinc 3 1, 3) := by decide +kernel
theorem dX7_slotsNow_33 : decode cX7_slotsNow 33 = .ok (.goto (-29), 3) := by decide +kernel
theorem dX7_slotsNow_36 : decode cX7_slotsNow 36 = .ok (.iload_n 2, 1) := by decide +kernel
theorem dX7_slotsNow_37 : decode cX7_slotsNow 37 = .ok (.ireturn, 1) := by decide +kernel
theorem dX7_ideal_0 : decode cX7_ideal 0 = .ok (.iconst 0, 1) := by decide +kernel
theorem dX7_ideal_1 : decode cX7_ideal 1 = .ok (.istore_n 2, 1) := by decide +kernel
theorem dX7_ideal_2 : decode cX7_ideal 2 = .ok (.iconst 0, 1) := by decide +kernel
theorem dX7_ideal_3 : decode cX7_ideal 3 = .ok (.istore_n 3, 1) := by decide +kernel
theorem dX7_ideal_4 : decode cX7_ideal 4 = .ok (.iload_n 3, 1) := by decide +kernel
theorem dX7_ideal_5 : decode cX7_ideal 5 = .ok (.bipush 10, 2) := by decide +kernel
theorem dX7_ideal_7 : decode cX7_ideal 7 = .ok (.if_icmp .ge 32, 3) := by decide +kernel
theorem dX7_ideal_10 : decode cX7_ideal 10 = .ok (.iload_n 2, 1) := by decide +kernel
theorem dX7_ideal_11 : decode cX7_ideal 11 = .ok (.aload_n 0, 1) := by decide +kernel
theorem dX7_ideal_12 : decode cX7_ideal 12 = .ok (.getfield 13, 3) := by decide +kernel
theorem dX7_ideal_15 : decode cX7_ideal 15 = .ok (.iload_n 3, 1) := by decide +kernel
theorem dX7_ideal_16 : decode cX7_ideal 16 = .ok (.iaload, 1) := by decide +kernel
theorem dX7_ideal_17 : decode cX7_ideal 17 = .ok (.iconst 2, 1) := by decide +kernel
theorem dX7_ideal_18 : decode cX7_ideal 18 = .ok (.if_icmp .ne 12, 3) := by decide +kernel
theorem dX7_ideal_21 : decode cX7_ideal 21 = .ok (.aload_n 0, 1) := by decide +kernel
theorem dX7_ideal_22 : decode cX7_ideal 22 = .ok (.getfield 20, 3) := by decide +kernel
theorem dX7_ideal_25 : decode cX7_ideal 25 = .ok (.iload_n 3, 1) := by decide +kernel
theorem dX7_ideal_26 : decode cX7_ideal 26 = .ok (.iaload, 1) := by decide +kernel
theorem dX7_ideal_27 : decode cX7_ideal 27 = .ok (.goto 4, 3) := by decide +kernel
theorem dX7_ideal_30 : decode cX7_ideal 30 = .ok (.iconst 0, 1) := by decide +kernel
theorem dX7_ideal_31 : decode cX7_ideal 31 = .ok (.iadd, 1) := by decide +kernel
theorem dX7_ideal_32 : decode cX7_ideal 32 = .ok (.istore_n 2, 1) := by decide +kernel
theorem dX7_ideal_33 : decode cX7_ideal 33 = .ok (.iinc 3 1, 3) := by decide +kernel
theorem dX7_ideal_36 : decode cX7_ideal 36 = .ok (.goto (-32), 3) := by decide +kernel
theorem dX7_ideal_39 : decode cX7_ideal 39 = .ok (.aload_n 0, 1) := by decide +kernel
theorem dX7_ideal_40 : decode cX7_ideal 40 = .ok (.getfield 13, 3) := by decide +kernel
theorem dX7_ideal_43 : decode cX7_ideal 43 = .ok (.iload_n 1, 1) := by decide +kernel
theorem dX7_ideal_44 : decode cX7_ideal 44 = .ok (.iaload, 1) := by decide +kernel
theorem dX7_ideal_45 : decode cX7_ideal 45 = .ok (.iconst 2, 1) := by decide +kernel
theorem dX7_ideal_46 : decode cX7_ideal 46 = .ok (.if_icmp .ne 21, 3) := by decide +kernel
theorem dX7_ideal_49 : decode cX7_ideal 49 = .ok (.aload_n 0, 1) := by decide +kernel
theorem dX7_ideal_50 : decode cX7_ideal 50 = .ok (.getfield 7, 3) := by decide +kernel
theorem dX7_ideal_53 : decode cX7_ideal 53 = .ok (.aload_n 0, 1) := by decide +kernel
theorem dX7_ideal_54 : decode cX7_ideal 54 = .ok (.getfield 20, 3) := by decide +kernel
theorem dX7_ideal_57 : decode cX7_ideal 57 = .ok (.iload_n 1, 1) := by decide +kernel
theorem dX7_ideal_58 : decode cX7_ideal 58 = .ok (.iaload, 1) := by decide +kernel
theorem dX7_ideal_59 : decode cX7_ideal 59 = .ok (.imul, 1) := by decide +kernel
theorem dX7_ideal_60 : decode cX7_ideal 60 = .ok (.i2d, 1) := by decide +kernel
theorem dX7_ideal_61 : decode cX7_ideal 61 = .ok (.iload_n 2, 1) := by decide +kernel
theorem dX7_ideal_62 : decode cX7_ideal 62 = .ok (.i2d, 1) := by decide +kernel
theorem dX7_ideal_63 : decode cX7_ideal 63 = .ok (.ddiv, 1) := by decide +kernel
theorem dX7_ideal_64 : decode cX7_ideal 64 = .ok (.goto 4, 3) := by decide +kernel
theorem dX7_ideal_67 : decode cX7_ideal 67 = .ok (.dconst 0, 1) := by decide +kernel
theorem dX7_ideal_68 : decode cX7_ideal 68 = .ok (.dreturn, 1) := by decide +kernel
theorem dX7_imbalance_0 : decode cX7_imbalance 0 = .ok (.aload_n 0, 1) := by decide +kernel
theorem dX7_imbalance_1 : decode cX7_imbalance 1 = .ok (.iconst 0, 1) := by decide +kernel
theorem dX7_imbalance_2 : decode cX7_imbalance 2 = .ok (.putfield 73, 3) := by decide +kernel
theorem dX7_imbalance_5 : decode cX7_imbalance 5 = .ok (.dconst 0, 1) := by decide +kernel
theorem dX7_imbalance_6 : decode cX7_imbalance 6 = .ok (.dstore_n 1, 1) := by decide +kernel
theorem dX7_imbalance_7 : decode cX7_imbalance 7 = .ok (.iconst 0, 1) := by decide +kernel
theorem dX7_imbalance_8 : decode cX7_imbalance 8 = .ok (.istore_n 3, 1) := by decide +kernel
theorem dX7_imbalance_9 : decode cX7_imbalance 9 = .ok (.iload_n 3, 1) := by decide +kernel
theorem dX7_imbalance_10 : decode cX7_imbalance 10 = .ok (.bipush 10, 2) := by decide +kernel
theorem dX7_imbalance_12 : decode cX7_imbalance 12 = .ok (.if_icmp .ge 47, 3) := by decide +kernel
theorem dX7_imbalance_15 : decode cX7_imbalance 15 = .ok (.aload_n 0, 1) := by decide +kernel
theorem dX7_imbalance_16 : decode cX7_imbalance 16 = .ok (.getfield 13, 3) := by decide +kernel
theorem dX7_imbalance_19 : decode cX7_imbalance 19 = .ok (.iload_n 3, 1) := by decide +kernel
theorem dX7_imbalance_20 : decode cX7_imbalance 20 = .ok (.iaload, 1) := by decide +kernel
theorem dX7_imbalance_21 : decode cX7_imbalance 21 = .ok (.iconst 2, 1) := by decide +kernel
theorem dX7_imbalance_22 : decode cX7_imbalance 22 = .ok (.if_icmp .ne 31, 3) := by decide +kernel
theorem dX7_imbalance_25 : decode cX7_imbalance 25 = .ok (.aload_n 0, 1) := by decide +kernel
theorem dX7_imbalance_26 : decode cX7_imbalance 26 = .ok (.iload_n 3, 1) := by decide +kernel
theorem dX7_imbalance_27 : decode cX7_imbalance 27 = .ok (.invokevirtual 128, 3) := by decide +kernel
theorem dX7_imbalance_30 : decode cX7_imbalance 30 = .ok (.i2d, 1) := by decide +kernel
theorem dX7_imbalance_31 : decode cX7_imbalance 31 = .ok (.aload_n 0, 1) := by decide +kernel
theorem dX7_imbalance_32 : decode cX7_imbalance 32 = .ok (.iload_n 3, 1) := by decide +kernel
theorem dX7_imbalance_33 : decode cX7_imbalance 33 = .ok (.invokevirtual 132, 3) := by decide +kernel
theorem dX7_imbalance_36 : decode cX7_imbalance 36 = .ok (.ddiv, 1) := by decide +kernel
theorem dX7_imbalance_37 : decode cX7_imbalance 37 = .ok (.dstore 4, 2) := by decide +kernel
theorem dX7_imbalance_39 : decode cX7_imbalance 39 = .ok (.dload 4, 2) := by decide +kernel
theorem dX7_imbalance_41 : decode cX7_imbalance 41 = .ok (.dload_n 1, 1) := by decide +kernel
theorem dX7_imbalance_42 : decode cX7_imbalance 42 = .ok (.dcmp .l, 1) := by decide +kernel
theorem dX7_imbalance_43 : decode cX7_imbalance 43 = .ok (.ifCond .le 8, 3) := by decide +kernel
theorem dX7_imbalance_46 : decode cX7_imbalance 46 = .ok (.dload 4, 2) := by decide +kernel
theorem dX7_imbalance_48 : decode cX7_imbalance 48 = .ok (.goto 4, 3) := by decide +kernel
theorem dX7_imbalance_51 : decode cX7_imbalance 51 = .ok (.dload_n 1, 1) := by decide +kernel
theorem dX7_imbalance_52 : decode cX7_imbalance 52 = .ok (.dstore_n 1, 1) := by decide +kernel
theorem dX7_imbalance_53 : decode cX7_imbalance 53 = .ok (.iinc 3 1, 3) := by decide +kernel
theorem dX7_imbalance_56 : decode cX7_imbalance 56 = .ok (.goto (-47), 3) := by decide +kernel
theorem dX7_imbalance_59 : decode cX7_imbalance 59 = .ok (.dload_n 1, 1) := by decide +kernel
theorem dX7_imbalance_60 : decode cX7_imbalance 60 = .ok (.dreturn, 1) := by decide +kernel
theorem dX7_named_0 : decode cX7_named 0 = .ok (.iconst 0, 1) := by decide +kernel
theorem dX7_named_1 : decode cX7_named 1 = .ok (.istore_n 2, 1) := by decide +kernel
theorem dX7_named_2 : decode cX7_named 2 = .ok (.iload_n 2, 1) := by decide +kernel
theorem dX7_named_3 : decode cX7_named 3 = .ok (.bipush 10, 2) := by decide +kernel
theorem dX7_named_5 : decode cX7_named 5 = .ok (.if_icmp .ge 30, 3) := by decide +kernel
theorem dX7_named_8 : decode cX7_named 8 = .ok (.aload_n 0, 1) := by decide +kernel
theorem dX7_named_9 : decode cX7_named 9 = .ok (.getfield 13, 3) := by decide +kernel
theorem dX7_named_12 : decode cX7_named 12 = .ok (.iload_n 2, 1) := by decide +kernel
theorem dX7_named_13 : decode cX7_named 13 = .ok (.iaload, 1) := by decide +kernel
theorem dX7_named_14 : decode cX7_named 14 = .ok (.ifCond .eq 15, 3) := by decide +kernel
theorem dX7_named_17 : decode cX7_named 17 = .ok (.aload_n 0, 1) := by decide +kernel
theorem dX7_named_18 : decode cX7_named 18 = .ok (.getfield 17, 3) := by decide +kernel
theorem dX7_named_21 : decode cX7_named 21 = .ok (.iload_n 2, 1) := by decide +kernel
theorem dX7_named_22 : decode cX7_named 22 = .ok (.iaload, 1) := by decide +kernel
theorem dX7_named_23 : decode cX7_named 23 = .ok (.iload_n 1, 1) := by decide +kernel
theorem dX7_named_24 : decode cX7_named 24 = .ok (.if_icmp .ne 5, 3) := by decide +kernel
theorem dX7_named_27 : decode cX7_named 27 = .ok (.iload_n 2, 1) := by decide +kernel
theorem dX7_named_28 : decode cX7_named 28 = .ok (.ireturn, 1) := by decide +kernel
theorem dX7_named_29 : decode cX7_named 29 = .ok (.iinc 2 1, 3) := by decide +kernel
theorem dX7_named_32 : decode cX7_named 32 = .ok (.goto (-30), 3) := by decide +kernel
theorem dX7_named_35 : decode cX7_named 35 = .ok (.iconst (-1), 1) := by decide +kernel
theorem dX7_named_36 : decode cX7_named 36 = .ok (.ireturn, 1) := by decide +kernel
theorem dX7_count_0 : decode cX7_count 0 = .ok (.iconst 0, 1) := by decide +kernel
theorem dX7_count_1 : decode cX7_count 1 = .ok (.istore_n 1, 1) := by decide +kernel
theorem dX7_count_2 : decode cX7_count 2 = .ok (.iconst 0, 1) := by decide +kernel
theorem dX7_count_3 : decode cX7_count 3 = .ok (.istore_n 2, 1) := by decide +kernel
theorem dX7_count_4 : decode cX7_count 4 = .ok (.iload_n 2, 1) := by decide +kernel
theorem dX7_count_5 : decode cX7_count 5 = .ok (.bipush 10, 2) := by decide +kernel
theorem dX7_count_7 : decode cX7_count 7 = .ok (.if_icmp .ge 26, 3) := by decide +kernel
theorem dX7_count_10 : decode cX7_count 10 = .ok (.iload_n 1, 1) := by decide +kernel
theorem dX7_count_11 : decode cX7_count 11 = .ok (.aload_n 0, 1) := by decide +kernel
theorem dX7_count_12 : decode cX7_count 12 = .ok (.getfield 13, 3) := by decide +kernel
theorem dX7_count_15 : decode cX7_count 15 = .ok (.iload_n 2, 1) := by decide +kernel
theorem dX7_count_16 : decode cX7_count 16 = .ok (.iaload, 1) := by decide +kernel
theorem dX7_count_17 : decode cX7_count 17 = .ok (.ifCond .eq 7, 3) := by decide +kernel
theorem dX7_count_20 : decode cX7_count 20 = .ok (.iconst 1, 1) := by decide +kernel
theorem dX7_count_21 : decode cX7_count 21 = .ok (.goto 4, 3) := by decide +kernel
theorem dX7_count_24 : decode cX7_count 24 = .ok (.iconst 0, 1) := by decide +kernel
theorem dX7_count_25 : decode cX7_count 25 = .ok (.iadd, 1) := by decide +kernel
theorem dX7_count_26 : decode cX7_count 26 = .ok (.istore_n 1, 1) := by decide +kernel
theorem dX7_count_27 : decode cX7_count 27 = .ok (.iinc 2 1, 3) := by decide +kernel
theorem dX7_count_30 : decode cX7_count 30 = .ok (.goto (-26), 3) := by decide +kernel
theorem dX7_count_33 : decode cX7_count 33 = .ok (.iload_n 1, 1) := by decide +kernel
theorem dX7_count_34 : decode cX7_count 34 = .ok (.ireturn, 1) := by decide +kernel
theorem dX7_serverCount_0 : decode cX7_serverCount 0 = .ok (.aload_n 0, 1) := by decide +kernel
theorem dX7_serverCount_1 : decode cX7_serverCount 1 = .ok (.iconst 0, 1) := by decide +kernel
theorem dX7_serverCount_2 : decode cX7_serverCount 2 = .ok (.putfield 73, 3) := by decide +kernel
theorem dX7_serverCount_5 : decode cX7_serverCount 5 = .ok (.aload_n 0, 1) := by decide +kernel
theorem dX7_serverCount_6 : decode cX7_serverCount 6 = .ok (.invokevirtual 152, 3) := by decide +kernel
theorem dX7_serverCount_9 : decode cX7_serverCount 9 = .ok (.ireturn, 1) := by decide +kernel
theorem dX7_serverNamed_0 : decode cX7_serverNamed 0 = .ok (.aload_n 0, 1) := by decide +kernel
theorem dX7_serverNamed_1 : decode cX7_serverNamed 1 = .ok (.iload_n 1, 1) := by decide +kernel
theorem dX7_serverNamed_2 : decode cX7_serverNamed 2 = .ok (.invokestatic 143, 3) := by decide +kernel
theorem dX7_serverNamed_5 : decode cX7_serverNamed 5 = .ok (.iconst 0, 1) := by decide +kernel
theorem dX7_serverNamed_6 : decode cX7_serverNamed 6 = .ok (.invokevirtual 124, 3) := by decide +kernel
theorem dX7_serverNamed_9 : decode cX7_serverNamed 9 = .ok (.ifCond .eq 7, 3) := by decide +kernel
theorem dX7_serverNamed_12 : decode cX7_serverNamed 12 = .ok (.iconst 0, 1) := by decide +kernel
theorem dX7_serverNamed_13 : decode cX7_serverNamed 13 = .ok (.goto 8, 3) := by decide +kernel
theorem dX7_serverNamed_16 : decode cX7_serverNamed 16 = .ok (.aload_n 0, 1) := by decide +kernel
theorem dX7_serverNamed_17 : decode cX7_serverNamed 17 = .ok (.iload_n 1, 1) := by decide +kernel
theorem dX7_serverNamed_18 : decode cX7_serverNamed 18 = .ok (.invokevirtual 149, 3) := by decide +kernel
theorem dX7_serverNamed_21 : decode cX7_serverNamed 21 = .ok (.ireturn, 1) := by decide +kernel
theorem dX7_preference_0 : decode cX7_preference 0 = .ok (.aload_n 0, 1) := by decide +kernel
theorem dX7_preference_1 : decode cX7_preference 1 = .ok (.aload_n 0, 1) := by decide +kernel
theorem dX7_preference_2 : decode cX7_preference 2 = .ok (.iload_n 1, 1) := by decide +kernel
theorem dX7_preference_3 : decode cX7_preference 3 = .ok (.invokevirtual 158, 3) := by decide +kernel
theorem dX7_preference_6 : decode cX7_preference 6 = .ok (.ifCond .ne 19, 3) := by decide +kernel
theorem dX7_preference_9 : decode cX7_preference 9 = .ok (.iload_n 2, 1) := by decide +kernel
theorem dX7_preference_10 : decode cX7_preference 10 = .ok (.i2l, 1) := by decide +kernel
theorem dX7_preference_11 : decode cX7_preference 11 = .ok (.lconst 0, 1) := by decide +kernel
theorem dX7_preference_12 : decode cX7_preference 12 = .ok (.aload_n 0, 1) := by decide +kernel
theorem dX7_preference_13 : decode cX7_preference 13 = .ok (.getfield 7, 3) := by decide +kernel
theorem dX7_preference_16 : decode cX7_preference 16 = .ok (.iconst 1, 1) := by decide +kernel
theorem dX7_preference_17 : decode cX7_preference 17 = .ok (.isub, 1) := by decide +kernel
theorem dX7_preference_18 : decode cX7_preference 18 = .ok (.i2l, 1) := by decide +kernel
theorem dX7_preference_19 : decode cX7_preference 19 = .ok (.invokestatic 93, 3) := by decide +kernel
theorem dX7_preference_22 : decode cX7_preference 22 = .ok (.ifCond .ne 7, 3) := by decide +kernel
theorem dX7_preference_25 : decode cX7_preference 25 = .ok (.iconst 1, 1) := by decide +kernel
theorem dX7_preference_26 : decode cX7_preference 26 = .ok (.goto 4, 3) := by decide +kernel
theorem dX7_preference_29 : decode cX7_preference 29 = .ok (.iconst 0, 1) := by decide +kernel
theorem dX7_preference_30 : decode cX7_preference 30 = .ok (.iconst 0, 1) := by decide +kernel
theorem dX7_preference_31 : decode cX7_preference 31 = .ok (.invokevirtual 124, 3) := by decide +kernel
theorem dX7_preference_34 : decode cX7_preference 34 = .ok (.ifCond .eq 7, 3) := by decide +kernel
theorem dX7_preference_37 : decode cX7_preference 37 = .ok (.iconst 0, 1) := by decide +kernel
theorem dX7_preference_38 : decode cX7_preference 38 = .ok (.goto 9, 3) := by decide +kernel
theorem dX7_preference_41 : decode cX7_preference 41 = .ok (.aload_n 0, 1) := by decide +kernel
theorem dX7_preference_42 : decode cX7_preference 42 = .ok (.iload_n 1, 1) := by decide +kernel
theorem dX7_preference_43 : decode cX7_preference 43 = .ok (.iload_n 2, 1) := by decide +kernel
theorem dX7_preference_44 : decode cX7_preference 44 = .ok (.invokevirtual 99, 3) := by decide +kernel
theorem dX7_preference_47 : decode cX7_preference 47 = .ok (.ireturn, 1) := by decide +kernel
theorem dX7_slotsOf_0 : decode cX7_slotsOf 0 = .ok (.aload_n 0, 1) := by decide +kernel
theorem dX7_slotsOf_1 : decode cX7_slotsOf 1 = .ok (.aload_n 0, 1) := by decide +kernel
theorem dX7_slotsOf_2 : decode cX7_slotsOf 2 = .ok (.iload_n 1, 1) := by decide +kernel
theorem dX7_slotsOf_3 : decode cX7_slotsOf 3 = .ok (.invokevirtual 158, 3) := by decide +kernel
theorem dX7_slotsOf_6 : decode cX7_slotsOf 6 = .ok (.iconst 0, 1) := by decide +kernel
theorem dX7_slotsOf_7 : decode cX7_slotsOf 7 = .ok (.invokevirtual 124, 3) := by decide +kernel
theorem dX7_slotsOf_10 : decode cX7_slotsOf 10 = .ok (.ifCond .eq 7, 3) := by decide +kernel
theorem dX7_slotsOf_13 : decode cX7_slotsOf 13 = .ok (.iconst 0, 1) := by decide +kernel
theorem dX7_slotsOf_14 : decode cX7_slotsOf 14 = .ok (.goto 8, 3) := by decide +kernel
theorem dX7_slotsOf_17 : decode cX7_slotsOf 17 = .ok (.aload_n 0, 1) := by decide +kernel
theorem dX7_slotsOf_18 : decode cX7_slotsOf 18 = .ok (.iload_n 1, 1) := by decide +kernel
theorem dX7_slotsOf_19 : decode cX7_slotsOf 19 = .ok (.invokevirtual 128, 3) := by decide +kernel
theorem dX7_slotsOf_22 : decode cX7_slotsOf 22 = .ok (.ireturn, 1) := by decide +kernel
theorem dX7_idealShare_0 : decode cX7_idealShare 0 = .ok (.aload_n 0, 1) := by decide +kernel
theorem dX7_idealShare_1 : decode cX7_idealShare 1 = .ok (.aload_n 0, 1) := by decide +kernel
theorem dX7_idealShare_2 : decode cX7_idealShare 2 = .ok (.iload_n 1, 1) := by decide +kernel
theorem dX7_idealShare_3 : decode cX7_idealShare 3 = .ok (.invokevirtual 158, 3) := by decide +kernel
theorem dX7_idealShare_6 : decode cX7_idealShare 6 = .ok (.iconst 0, 1) := by decide +kernel
theorem dX7_idealShare_7 : decode cX7_idealShare 7 = .ok (.invokevirtual 124, 3) := by decide +kernel
theorem dX7_idealShare_10 : decode cX7_idealShare 10 = .ok (.ifCond .eq 7, 3) := by decide +kernel
theorem dX7_idealShare_13 : decode cX7_idealShare 13 = .ok (.dconst 0, 1) := by decide +kernel
theorem dX7_idealShare_14 : decode cX7_idealShare 14 = .ok (.goto 8, 3) := by decide +kernel
theorem dX7_idealShare_17 : decode cX7_idealShare 17 = .ok (.aload_n 0, 1) := by decide +kernel
theorem dX7_idealShare_18 : decode cX7_idealShare 18 = .ok (.iload_n 1, 1) := by decide +kernel
theorem dX7_idealShare_19 : decode cX7_idealShare 19 = .ok (.invokevirtual 132, 3) := by decide +kernel
theorem dX7_idealShare_22 : decode cX7_idealShare 22 = .ok (.dreturn, 1) := by decide +kernel
theorem dX7_loadOf_0 : decode cX7_loadOf 0 = .ok (.aload_n 0, 1) := by decide +kernel
theorem dX7_loadOf_1 : decode cX7_loadOf 1 = .ok (.aload_n 0, 1) := by decide +kernel
theorem dX7_loadOf_2 : decode cX7_loadOf 2 = .ok (.iload_n 1, 1) := by decide +kernel
theorem dX7_loadOf_3 : decode cX7_loadOf 3 = .ok (.invokevirtual 158, 3) := by decide +kernel
theorem dX7_loadOf_6 : decode cX7_loadOf 6 = .ok (.iconst 0, 1) := by decide +kernel
theorem dX7_loadOf_7 : decode cX7_loadOf 7 = .ok (.invokevirtual 124, 3) := by decide +kernel
theorem dX7_loadOf_10 : decode cX7_loadOf 10 = .ok (.ifCond .eq 7, 3) := by decide +kernel
theorem dX7_loadOf_13 : decode cX7_loadOf 13 = .ok (.lconst 0, 1) := by decide +kernel
theorem dX7_loadOf_14 : decode cX7_loadOf 14 = .ok (.goto 9, 3) := by decide +kernel
theorem dX7_loadOf_17 : decode cX7_loadOf 17 = .ok (.aload_n 0, 1) := by decide +kernel
theorem dX7_loadOf_18 : decode cX7_loadOf 18 = .ok (.getfield 23, 3) := by decide +kernel
theorem dX7_loadOf_21 : decode cX7_loadOf 21 = .ok (.iload_n 1, 1) := by decide +kernel
theorem dX7_loadOf_22 : decode cX7_loadOf 22 = .ok (.laload, 1) := by decide +kernel
theorem dX7_loadOf_23 : decode cX7_loadOf 23 = .ok (.lreturn, 1) := by decide +kernel
theorem dX7_ups_0 : decode cX7_ups 0 = .ok (.iconst 0, 1) := by decide +kernel
theorem dX7_ups_1 : decode cX7_ups 1 = .ok (.istore_n 1, 1) := by decide +kernel
theorem dX7_ups_2 : decode cX7_ups 2 = .ok (.iconst 0, 1) := by decide +kernel
theorem dX7_ups_3 : decode cX7_ups 3 = .ok (.istore_n 2, 1) := by decide +kernel
theorem dX7_ups_4 : decode cX7_ups 4 = .ok (.iload_n 2, 1) := by decide +kernel
theorem dX7_ups_5 : decode cX7_ups 5 = .ok (.bipush 10, 2) := by decide +kernel
theorem dX7_ups_7 : decode cX7_ups 7 = .ok (.if_icmp .ge 27, 3) := by decide +kernel
theorem dX7_ups_10 : decode cX7_ups 10 = .ok (.iload_n 1, 1) := by decide +kernel
theorem dX7_ups_11 : decode cX7_ups 11 = .ok (.aload_n 0, 1) := by decide +kernel
theorem dX7_ups_12 : decode cX7_ups 12 = .ok (.getfield 13, 3) := by decide +kernel
theorem dX7_ups_15 : decode cX7_ups 15 = .ok (.iload_n 2, 1) := by decide +kernel
theorem dX7_ups_16 : decode cX7_ups 16 = .ok (.iaload, 1) := by decide +kernel
theorem dX7_ups_17 : decode cX7_ups 17 = .ok (.iconst 2, 1) := by decide +kernel
theorem dX7_ups_18 : decode cX7_ups 18 = .ok (.if_icmp .ne 7, 3) := by decide +kernel
theorem dX7_ups_21 : decode cX7_ups 21 = .ok (.iconst 1, 1) := by decide +kernel
theorem dX7_ups_22 : decode cX7_ups 22 = .ok (.goto 4, 3) := by decide +kernel
theorem dX7_ups_25 : decode cX7_ups 25 = .ok (.iconst 0, 1) := by decide +kernel
theorem dX7_ups_26 : decode cX7_ups 26 = .ok (.iadd, 1) := by decide +kernel
theorem dX7_ups_27 : decode cX7_ups 27 = .ok (.istore_n 1, 1) := by decide +kernel
theorem dX7_ups_28 : decode cX7_ups 28 = .ok (.iinc 2 1, 3) := by decide +kernel
theorem dX7_ups_31 : decode cX7_ups 31 = .ok (.goto (-27), 3) := by decide +kernel
theorem dX7_ups_34 : decode cX7_ups 34 = .ok (.iload_n 1, 1) := by decide +kernel
theorem dX7_ups_35 : decode cX7_ups 35 = .ok (.ireturn, 1) := by decide +kernel
theorem dX7_trackedKeys_0 : decode cX7_trackedKeys 0 = .ok (.aload_n 0, 1) := by decide +kernel
theorem dX7_trackedKeys_1 : decode cX7_trackedKeys 1 = .ok (.iconst 0, 1) := by decide +kernel
theorem dX7_trackedKeys_2 : decode cX7_trackedKeys 2 = .ok (.putfield 73, 3) := by decide +kernel
theorem dX7_trackedKeys_5 : decode cX7_trackedKeys 5 = .ok (.aload_n 0, 1) := by decide +kernel
theorem dX7_trackedKeys_6 : decode cX7_trackedKeys 6 = .ok (.getfield 85, 3) := by decide +kernel
theorem dX7_trackedKeys_9 : decode cX7_trackedKeys 9 = .ok (.ireturn, 1) := by decide +kernel
theorem k_X7_reset_93 : aKS mX7_reset mX7_in 93 3 := ⟨cb_X7_in, rfl, ml_X7_93, st_X7_in, ⟨Nat.le_of_ble_eq_true rfl, Nat.le_of_ble_eq_true rfl⟩⟩
theorem k_X7_reset_124 : aKV mX7_reset mX7_isRefused 124 2 7 := ⟨cb_X7_isRefused, rfl, ml_X7_124, iv_X7_isRefused, sl_X7_isRefused, ⟨_, _, rfl⟩, ⟨Nat.le_of_ble_eq_true rfl, Nat.le_of_ble_eq_true rfl⟩⟩
theorem k_X7_reset_120 : aKS mX7_reset mX7_isPrime 120 1 := ⟨cb_X7_isPrime, rfl, ml_X7_120, st_X7_isPrime, ⟨Nat.le_of_ble_eq_true rfl, Nat.le_of_ble_eq_true rfl⟩⟩
theorem k_X7_reset_69 : aKV mX7_reset mX7_begins 69 1 7 := ⟨cb_X7_begins, rfl, ml_X7_69, iv_X7_begins, sl_X7_begins, ⟨_, _, rfl⟩, ⟨Nat.le_of_ble_eq_true rfl, Nat.le_of_ble_eq_true rfl⟩⟩
theorem k_X7_serverAt_93 : aKS mX7_serverAt mX7_in 93 3 := ⟨cb_X7_in, rfl, ml_X7_93, st_X7_in, ⟨Nat.le_of_ble_eq_true rfl, Nat.le_of_ble_eq_true rfl⟩⟩
theorem k_X7_serverAt_124 : aKV mX7_serverAt mX7_isRefused 124 2 7 := ⟨cb_X7_isRefused, rfl, ml_X7_124, iv_X7_isRefused, sl_X7_isRefused, ⟨_, _, rfl⟩, ⟨Nat.le_of_ble_eq_true rfl, Nat.le_of_ble_eq_true rfl⟩⟩
theorem k_X7_imbalance_128 : aKV mX7_imbalance mX7_slotsNow 128 1 7 := ⟨cb_X7_slotsNow, rfl, ml_X7_128, iv_X7_slotsNow, sl_X7_slotsNow, ⟨_, _, rfl⟩, ⟨Nat.le_of_ble_eq_true rfl, Nat.le_of_ble_eq_true rfl⟩⟩
theorem k_X7_imbalance_132 : aKV mX7_imbalance mX7_ideal 132 1 7 := ⟨cb_X7_ideal, rfl, ml_X7_132, iv_X7_ideal, sl_X7_ideal, ⟨_, _, rfl⟩, ⟨Nat.le_of_ble_eq_true rfl, Nat.le_of_ble_eq_true rfl⟩⟩
theorem k_X7_serverCount_152 : aKV mX7_serverCount mX7_count 152 0 7 := ⟨cb_X7_count, rfl, ml_X7_152, iv_X7_count, sl_X7_count, ⟨_, _, rfl⟩, ⟨Nat.le_of_ble_eq_true rfl, Nat.le_of_ble_eq_true rfl⟩⟩
theorem k_X7_serverNamed_143 : aKS mX7_serverNamed mX7_noName 143 1 := ⟨cb_X7_noName, rfl, ml_X7_143, st_X7_noName, ⟨Nat.le_of_ble_eq_true rfl, Nat.le_of_ble_eq_true rfl⟩⟩
theorem k_X7_serverNamed_124 : aKV mX7_serverNamed mX7_isRefused 124 2 7 := ⟨cb_X7_isRefused, rfl, ml_X7_124, iv_X7_isRefused, sl_X7_isRefused, ⟨_, _, rfl⟩, ⟨Nat.le_of_ble_eq_true rfl, Nat.le_of_ble_eq_true rfl⟩⟩
theorem k_X7_serverNamed_149 : aKV mX7_serverNamed mX7_named 149 1 7 := ⟨cb_X7_named, rfl, ml_X7_149, iv_X7_named, sl_X7_named, ⟨_, _, rfl⟩, ⟨Nat.le_of_ble_eq_true rfl, Nat.le_of_ble_eq_true rfl⟩⟩
theorem k_X7_slotsOf_158 : aKV mX7_slotsOf mX7_noServer 158 1 7 := ⟨cb_X7_noServer, rfl, ml_X7_158, iv_X7_noServer, sl_X7_noServer, ⟨_, _, rfl⟩, ⟨Nat.le_of_ble_eq_true rfl, Nat.le_of_ble_eq_true rfl⟩⟩
theorem k_X7_slotsOf_124 : aKV mX7_slotsOf mX7_isRefused 124 2 7 := ⟨cb_X7_isRefused, rfl, ml_X7_124, iv_X7_isRefused, sl_X7_isRefused, ⟨_, _, rfl⟩, ⟨Nat.le_of_ble_eq_true rfl, Nat.le_of_ble_eq_true rfl⟩⟩
theorem k_X7_slotsOf_128 : aKV mX7_slotsOf mX7_slotsNow 128 1 7 := ⟨cb_X7_slotsNow, rfl, ml_X7_128, iv_X7_slotsNow, sl_X7_slotsNow, ⟨_, _, rfl⟩, ⟨Nat.le_of_ble_eq_true rfl, Nat.le_of_ble_eq_true rfl⟩⟩
theorem k_X7_idealShare_158 : aKV mX7_idealShare mX7_noServer 158 1 7 := ⟨cb_X7_noServer, rfl, ml_X7_158, iv_X7_noServer, sl_X7_noServer, ⟨_, _, rfl⟩, ⟨Nat.le_of_ble_eq_true rfl, Nat.le_of_ble_eq_true rfl⟩⟩
theorem k_X7_idealShare_124 : aKV mX7_idealShare mX7_isRefused 124 2 7 := ⟨cb_X7_isRefused, rfl, ml_X7_124, iv_X7_isRefused, sl_X7_isRefused, ⟨_, _, rfl⟩, ⟨Nat.le_of_ble_eq_true rfl, Nat.le_of_ble_eq_true rfl⟩⟩
theorem k_X7_idealShare_132 : aKV mX7_idealShare mX7_ideal 132 1 7 := ⟨cb_X7_ideal, rfl, ml_X7_132, iv_X7_ideal, sl_X7_ideal, ⟨_, _, rfl⟩, ⟨Nat.le_of_ble_eq_true rfl, Nat.le_of_ble_eq_true rfl⟩⟩
theorem k_X7_loadOf_158 : aKV mX7_loadOf mX7_noServer 158 1 7 := ⟨cb_X7_noServer, rfl, ml_X7_158, iv_X7_noServer, sl_X7_noServer, ⟨_, _, rfl⟩, ⟨Nat.le_of_ble_eq_true rfl, Nat.le_of_ble_eq_true rfl⟩⟩
theorem k_X7_loadOf_124 : aKV mX7_loadOf mX7_isRefused 124 2 7 := ⟨cb_X7_isRefused, rfl, ml_X7_124, iv_X7_isRefused, sl_X7_isRefused, ⟨_, _, rfl⟩, ⟨Nat.le_of_ble_eq_true rfl, Nat.le_of_ble_eq_true rfl⟩⟩
theorem k_X7_preference_158 : aKV mX7_preference mX7_noServer 158 1 7 := ⟨cb_X7_noServer, rfl, ml_X7_158, iv_X7_noServer, sl_X7_noServer, ⟨_, _, rfl⟩, ⟨Nat.le_of_ble_eq_true rfl, Nat.le_of_ble_eq_true rfl⟩⟩
theorem k_X7_preference_93 : aKS mX7_preference mX7_in 93 3 := ⟨cb_X7_in, rfl, ml_X7_93, st_X7_in, ⟨Nat.le_of_ble_eq_true rfl, Nat.le_of_ble_eq_true rfl⟩⟩
theorem k_X7_preference_124 : aKV mX7_preference mX7_isRefused 124 2 7 := ⟨cb_X7_isRefused, rfl, ml_X7_124, iv_X7_isRefused, sl_X7_isRefused, ⟨_, _, rfl⟩, ⟨Nat.le_of_ble_eq_true rfl, Nat.le_of_ble_eq_true rfl⟩⟩
theorem k_X7_preference_99 : aKV mX7_preference mX7_preferred 99 2 7 := ⟨cb_X7_preferred, rfl, ml_X7_99, iv_X7_preferred, sl_X7_preferred, ⟨_, _, rfl⟩, ⟨Nat.le_of_ble_eq_true rfl, Nat.le_of_ble_eq_true rfl⟩⟩
/-! ===== PreferenceTableModel: reads ===== -/
def prL (m : Nat) : Nat → Nat → Bool → Bool
  | 0, _, b => b
  | k + 1, d, b => if m < d * d then b else prL m k (d + 1) (b && decide (¬ m % d = 0))
theorem prL_gSc : ∀ m, m < 62 → 5 ≤ m → prL m 7 2 true = gSc (nI m) := by decide +kernel
theorem gSc_slP : ∀ m, m < 62 → (gSc (nI m) = true ↔ m ∈ slP) := by decide +kernel
theorem gSc_of {x : Int32} (h : gSc x = true) : ∃ m, m ∈ slP ∧ x = nI m := by
  unfold gSc at h
  cases hf : aFo (fun j => decide (slC j = x)) 16 0 with
  | none => rw [hf] at h; cases h
  | some i =>
    obtain ⟨-, h2, h3⟩ := aFo_some hf
    have h4 : slC i = x := of_decide_eq_true h3
    have : ∀ i, i < 16 → slC i = nI (slP.getD i 0) ∧ slP.getD i 0 ∈ slP := by decide +kernel
    obtain ⟨h5, h6⟩ := this i (by omega)
    exact ⟨_, h6, by rw [← h4, h5]⟩
theorem mIn_sl {M : Nat} (h1 : 1 ≤ M) (hM : M < 2 ^ 31) (s : Int32) : mIn s.toInt64 0 (nI M - 1).toInt64 = sSl M s := by
  obtain ⟨z, rfl⟩ : ∃ z, M = z + 1 := ⟨M - 1, by omega⟩
  rw [nI_pred, nI_l (by omega)]
  refine (mIn_i s (a := 0) (b := z) (by decide) (by omega)).trans ?_
  unfold sSl
  congr 1
  have e : (s ≤ nI z) ↔ ¬ nI (z + 1) ≤ s := by
    rw [Int32.le_iff_toInt_le, Int32.le_iff_toInt_le, nI_toInt (by omega), nI_toInt (by omega)]; omega
  simp only [e]
theorem mIn_0 (s : Int32) : mIn s.toInt64 0 ((0 : Int32) - 1).toInt64 = false := by
  unfold mIn
  have e1 : (((0 : Int32) - 1).toInt64 < s.toInt64) ↔ (-1 : Int) < s.toInt := by
    rw [Int64.lt_iff_toInt_lt, Int32.toInt_toInt64, Int32.toInt_toInt64]; exact Iff.rfl
  have e2 : (s.toInt64 < 0) ↔ s.toInt < 0 := by
    rw [Int64.lt_iff_toInt_lt, Int32.toInt_toInt64]; exact Iff.rfl
  simp only [e1, e2]
  by_cases h : s.toInt < 0
  · simp [h]
  · have : (-1 : Int) < s.toInt := by omega
    simp [this]
section MO3
variable {l : Launch} {X : aX} {f : Int32} {v : sT} {u : uT} {k : kT} {q : qT}
theorem c_X7_isPrime (m : Nat) (hm : m ≤ 61) (h2 : 2 ≤ m) : aRd l X mX7_isPrime [] [.int (nI m)] [] (.int (bI (prL m 7 2 true))) := by
  refine aMt.of (by decide) rfl (Nat.le_of_ble_eq_true rfl) ?_
  generalize hr : prL m 7 2 true = r
  refine a_iload_n dX7_isPrime_0 rfl ?_
  refine a_iconst 1 dX7_isPrime_1 (by decide) ?_
  refine a_icmp_le 9 dX7_isPrime_2 (by decide) (fun z => absurd z (nI_ge (a := 1) (by omega) (by omega))) (fun _ => ?_)
  refine a_iconst 1 dX7_isPrime_5 (by decide) ?_
  refine a_goto 10 dX7_isPrime_6 (by decide) ?_
  refine a_istore_n dX7_isPrime_10 (by decide) rfl ?_
  refine a_iconst 2 dX7_isPrime_11 (by decide) ?_
  refine a_istore_n dX7_isPrime_12 (by decide) rfl ?_
  have lp : ∀ (n d : Nat) (b : Bool), d + n = 9 → 2 ≤ d → prL m n d b = r → aJ l X mX7_isPrime (aEd X mX7_isPrime [] (fun o h' => o = .inl (some (.int (bI r))) ∧ h' = [])) 0 0 13 [.int (nI m), .int (bI b), .int (nI d)] [] [] := by
    intro n
    induction n with
    | zero =>
      intro d b hd _ hr
      obtain rfl : d = 9 := by omega
      refine a_iload_n dX7_isPrime_13 rfl ?_
      refine a_iload_n dX7_isPrime_14 rfl ?_
      refine a_imul dX7_isPrime_15 ?_
      refine a_iload_n dX7_isPrime_16 rfl ?_
      refine a_icmp_gt 42 dX7_isPrime_17 (by decide) (fun _ => ?_) (fun z => absurd (show nI m < nI 9 * nI 9 from nI_lt (b := 81) (by omega) (by decide)) z)
      refine a_iload_n dX7_isPrime_42 rfl ?_
      refine a_zret rfl (bI_nar b) dX7_isPrime_43 (by decide) (by decide) ?_
      exact ⟨by rw [← hr]; rfl, rfl⟩
    | succ n ih =>
      intro d b hd h2d hr
      have hdd : d * d ≤ 9 * 9 := Nat.mul_le_mul (by omega) (by omega)
      refine a_iload_n dX7_isPrime_13 rfl ?_
      refine a_iload_n dX7_isPrime_14 rfl ?_
      refine a_imul dX7_isPrime_15 ?_
      rw [pk_mul]
      refine a_iload_n dX7_isPrime_16 rfl ?_
      refine a_icmp_gt 42 dX7_isPrime_17 (by decide) (fun c17 => ?_) (fun c17 => ?_)
      · rw [nI_ltI (by omega) (by omega)] at c17
        refine a_iload_n dX7_isPrime_42 rfl ?_
        refine a_zret rfl (bI_nar b) dX7_isPrime_43 (by decide) (by decide) ?_
        exact ⟨by rw [← hr]; simp [prL, c17], rfl⟩
      · rw [nI_ltI (by omega) (by omega)] at c17
        refine a_iload_n dX7_isPrime_20 rfl ?_
        refine a_if_eq 34 dX7_isPrime_21 (by decide) (fun c21 => ?_) (fun c21 => ?_)
        · refine a_iconst 0 dX7_isPrime_34 (by decide) ?_
          refine a_istore_n dX7_isPrime_35 (by decide) rfl ?_
          refine a_iinc (nI (d + 1)) dX7_isPrime_36 rfl (nI_1 _) (by decide) rfl ?_
          refine a_goto 13 dX7_isPrime_39 (by decide) ?_
          exact ih (d + 1) false (by omega) (by omega) (by rw [← hr]; simp [prL, c17, bI_0 c21])
        · refine a_iload_n dX7_isPrime_24 rfl ?_
          refine a_iload_n dX7_isPrime_25 rfl ?_
          refine a_irem dX7_isPrime_26 (nI_ne0 (by omega) (by omega)) ?_
          rw [pk_rem (by omega) (by omega) (by omega)]
          refine a_if_eq 34 dX7_isPrime_27 (by decide) (fun c27 => ?_) (fun c27 => ?_)
          · have e : m % d = 0 := (nI_eq (a := m % d) (b := 0) (by have := Nat.mod_lt m (show 0 < d by omega); omega) (by decide)).mp c27
            refine a_iconst 0 dX7_isPrime_34 (by decide) ?_
            refine a_istore_n dX7_isPrime_35 (by decide) rfl ?_
            refine a_iinc (nI (d + 1)) dX7_isPrime_36 rfl (nI_1 _) (by decide) rfl ?_
            refine a_goto 13 dX7_isPrime_39 (by decide) ?_
            exact ih (d + 1) false (by omega) (by omega) (by rw [← hr]; simp [prL, c17, e])
          · have e : ¬ m % d = 0 := fun z => c27 (by rw [z]; rfl)
            refine a_iconst 1 dX7_isPrime_30 (by decide) ?_
            refine a_goto 35 dX7_isPrime_31 (by decide) ?_
            refine a_istore_n dX7_isPrime_35 (by decide) rfl ?_
            refine a_iinc (nI (d + 1)) dX7_isPrime_36 rfl (nI_1 _) (by decide) rfl ?_
            refine a_goto 13 dX7_isPrime_39 (by decide) ?_
            exact ih (d + 1) true (by omega) (by omega) (by rw [← hr]; simp [prL, c17, bI_1 c21, e])
  exact lp 7 2 true rfl (Nat.le_refl _) hr
theorem c_X7_reset_bad (x : Int32) (hg : gSc x = false) : aWr l X mX7_reset is19 [.ref 0, .int x] (aMo f v u k q) (some (.int 0)) (aMo 1 v u k q) := by
  refine aMt.of (by decide) rfl (Nat.le_of_ble_eq_true rfl) ?_
  refine a_aload_n dX7_reset_0 rfl ?_
  refine a_iload_n dX7_reset_1 rfl ?_
  refine a_i2l dX7_reset_2 ?_
  refine a_ldc2 dX7_reset_3 cn_X7_116 ?_
  refine a_ldc2 dX7_reset_6 cn_X7_118 ?_
  refine a_SiR [] k_X7_reset_93 (c_X7_in x.toInt64 5 61) dX7_reset_9 rfl rfl rfl rfl rfl (Nat.le_of_ble_eq_true rfl) ⟨Nat.le_of_ble_eq_true rfl, Nat.le_of_ble_eq_true rfl⟩ ⟨rfl, rfl⟩ ?_
  rw [show mIn x.toInt64 5 61 = (decide (¬ x < nI 5) && decide (x ≤ nI 61)) from mIn_i x (a := 5) (b := 61) (by decide) (by decide)]
  refine a_if_eq 22 dX7_reset_12 (by decide) (fun c12 => ?_) (fun c12 => ?_)
  · refine a_iconst 1 dX7_reset_22 (by decide) ?_
    refine a_goto 27 dX7_reset_23 (by decide) ?_
    refine a_iconst 0 dX7_reset_27 (by decide) ?_
    refine a_ViW is19 (aMo 1 v u k q) k_X7_reset_124 (c_X7_isRefused (f := f) (v := v) (u := u) (k := k) (q := q) true false) dX7_reset_28 rfl rfl rfl rfl rfl rfl (Nat.le_of_ble_eq_true rfl) ⟨Nat.le_of_ble_eq_true rfl, Nat.le_of_ble_eq_true rfl⟩ ⟨rfl, rfl⟩ (Nat.le_of_ble_eq_true rfl) rfl ?_
    refine a_if_eq 36 dX7_reset_31 (by decide) (fun z => absurd z (by decide)) (fun _ => ?_)
    refine a_iconst 0 dX7_reset_34 (by decide) ?_
    refine a_iret rfl dX7_reset_35 (by decide) (by decide) ?_
    exact ⟨rfl, rfl⟩
  · have hb := bI_1 c12
    rw [Bool.and_eq_true, decide_eq_true_eq, decide_eq_true_eq] at hb
    have hx0 : ¬ x < 0 := by
      intro z
      apply hb.1
      rw [Int32.lt_iff_toInt_lt] at z ⊢
      have e5 : (nI 5).toInt = 5 := by decide
      have e0 : (0 : Int32).toInt = 0 := by decide
      omega
    obtain ⟨m, hm, rfl⟩ := nI_of2 (M := nI 61) (n := 61) (by decide) hx0 hb.2
    have h5 : 5 ≤ m := by
      rcases Nat.lt_or_ge m 5 with z | z
      · exact absurd (nI_lt z (by decide)) hb.1
      · exact z
    have hp := c_X7_isPrime (l := l) (X := X) m hm (by omega)
    rw [prL_gSc m (by omega) h5, hg] at hp
    refine a_iload_n dX7_reset_15 rfl ?_
    refine a_SiR [] k_X7_reset_120 (hp) dX7_reset_16 rfl rfl rfl rfl rfl (Nat.le_of_ble_eq_true rfl) ⟨Nat.le_of_ble_eq_true rfl, Nat.le_of_ble_eq_true rfl⟩ ⟨rfl, rfl⟩ ?_
    refine a_if_ne 26 dX7_reset_19 (by decide) (fun z => absurd (by decide) z) (fun _ => ?_)
    refine a_iconst 1 dX7_reset_22 (by decide) ?_
    refine a_goto 27 dX7_reset_23 (by decide) ?_
    refine a_iconst 0 dX7_reset_27 (by decide) ?_
    refine a_ViW is19 (aMo 1 v u k q) k_X7_reset_124 (c_X7_isRefused (f := f) (v := v) (u := u) (k := k) (q := q) true false) dX7_reset_28 rfl rfl rfl rfl rfl rfl (Nat.le_of_ble_eq_true rfl) ⟨Nat.le_of_ble_eq_true rfl, Nat.le_of_ble_eq_true rfl⟩ ⟨rfl, rfl⟩ (Nat.le_of_ble_eq_true rfl) rfl ?_
    refine a_if_eq 36 dX7_reset_31 (by decide) (fun z => absurd z (by decide)) (fun _ => ?_)
    refine a_iconst 0 dX7_reset_34 (by decide) ?_
    refine a_iret rfl dX7_reset_35 (by decide) (by decide) ?_
    exact ⟨rfl, rfl⟩
theorem c_X7_reset_ok (m : Nat) (hm : m ∈ slP) : aWr l X mX7_reset is19 [.ref 0, .int (nI m)] (aMo f v u k q) (some (.int (nI u.1))) (aMo 0 (vClr v) (m, fFl 61 (fun _ => -1) u.2.1, u.2.2.1, 0, 0) (k.1, 0) (0, q.2)) := by
  refine aMt.of (by decide) rfl (Nat.le_of_ble_eq_true rfl) ?_
  obtain ⟨h5, h61⟩ := slP_b hm
  have hp := c_X7_isPrime (l := l) (X := X) m h61 (by omega)
  rw [prL_gSc m (by omega) h5, (gSc_slP m (by omega)).mpr hm] at hp
  have hi : mIn (nI m).toInt64 5 61 = true := by
    refine (mIn_i (nI m) (a := 5) (b := 61) (by decide) (by decide)).trans ?_
    rw [Bool.and_eq_true, decide_eq_true_eq, decide_eq_true_eq]
    exact ⟨nI_nlt h5 (by omega), nI_le h61 (by decide)⟩
  have hin := c_X7_in (l := l) (X := X) (nI m).toInt64 5 61
  rw [hi] at hin
  refine a_aload_n dX7_reset_0 rfl ?_
  refine a_iload_n dX7_reset_1 rfl ?_
  refine a_i2l dX7_reset_2 ?_
  refine a_ldc2 dX7_reset_3 cn_X7_116 ?_
  refine a_ldc2 dX7_reset_6 cn_X7_118 ?_
  refine a_SiR [] k_X7_reset_93 (hin) dX7_reset_9 rfl rfl rfl rfl rfl (Nat.le_of_ble_eq_true rfl) ⟨Nat.le_of_ble_eq_true rfl, Nat.le_of_ble_eq_true rfl⟩ ⟨rfl, rfl⟩ ?_
  refine a_if_eq 22 dX7_reset_12 (by decide) (fun z => absurd z (by decide)) (fun _ => ?_)
  refine a_iload_n dX7_reset_15 rfl ?_
  refine a_SiR [] k_X7_reset_120 (hp) dX7_reset_16 rfl rfl rfl rfl rfl (Nat.le_of_ble_eq_true rfl) ⟨Nat.le_of_ble_eq_true rfl, Nat.le_of_ble_eq_true rfl⟩ ⟨rfl, rfl⟩ ?_
  refine a_if_ne 26 dX7_reset_19 (by decide) (fun _ => ?_) (fun z => absurd z (by decide))
  refine a_iconst 0 dX7_reset_26 (by decide) ?_
  refine a_iconst 0 dX7_reset_27 (by decide) ?_
  refine a_ViW is19 (aMo 0 v u k q) k_X7_reset_124 (c_X7_isRefused (f := f) (v := v) (u := u) (k := k) (q := q) false false) dX7_reset_28 rfl rfl rfl rfl rfl rfl (Nat.le_of_ble_eq_true rfl) ⟨Nat.le_of_ble_eq_true rfl, Nat.le_of_ble_eq_true rfl⟩ ⟨rfl, rfl⟩ (Nat.le_of_ble_eq_true rfl) rfl ?_
  refine a_if_eq 36 dX7_reset_31 (by decide) (fun _ => ?_) (fun z => absurd (by decide) z)
  refine a_aload_n dX7_reset_36 rfl ?_
  refine a_get fl_X7_7 dX7_reset_37 rfl rfl ?_
  refine a_istore_n dX7_reset_40 (by decide) rfl ?_
  refine a_aload_n dX7_reset_41 rfl ?_
  refine a_iload_n dX7_reset_42 rfl ?_
  refine a_VvW is19 (_) k_X7_reset_69 (c_X7_begins (f := 0) (v := v) (u := u) (k := k) (q := q) m) dX7_reset_43 rfl rfl rfl rfl rfl rfl (Nat.le_of_ble_eq_true rfl) ⟨Nat.le_of_ble_eq_true rfl, Nat.le_of_ble_eq_true rfl⟩ ⟨rfl, rfl⟩ (Nat.le_of_ble_eq_true rfl) rfl ?_
  refine a_iload_n dX7_reset_46 rfl ?_
  refine a_iret rfl dX7_reset_47 (by decide) (by decide) ?_
  exact ⟨rfl, rfl⟩
theorem c_X7_disruption : aWr l X mX7_disruption is19 [.ref 0] (aMo f v u k q) (some (.int u.2.2.2.1)) (aMo 0 v u k q) := by
  refine aMt.of (by decide) rfl (Nat.le_of_ble_eq_true rfl) ?_
  refine a_aload_n dX7_disruption_0 rfl ?_
  refine a_iconst 0 dX7_disruption_1 (by decide) ?_
  refine a_put fp_X7_73 dX7_disruption_2 rfl (Nat.le_of_ble_eq_true rfl) (fun _ => ⟨rfl, rfl⟩) ?_
  refine a_aload_n dX7_disruption_5 rfl ?_
  refine a_get fl_X7_76 dX7_disruption_6 rfl rfl ?_
  refine a_iret rfl dX7_disruption_9 (by decide) (by decide) ?_
  exact ⟨rfl, rfl⟩
theorem c_X7_forcedDisruption : aWr l X mX7_forcedDisruption is19 [.ref 0] (aMo f v u k q) (some (.int u.2.2.2.2)) (aMo 0 v u k q) := by
  refine aMt.of (by decide) rfl (Nat.le_of_ble_eq_true rfl) ?_
  refine a_aload_n dX7_forcedDisruption_0 rfl ?_
  refine a_iconst 0 dX7_forcedDisruption_1 (by decide) ?_
  refine a_put fp_X7_73 dX7_forcedDisruption_2 rfl (Nat.le_of_ble_eq_true rfl) (fun _ => ⟨rfl, rfl⟩) ?_
  refine a_aload_n dX7_forcedDisruption_5 rfl ?_
  refine a_get fl_X7_79 dX7_forcedDisruption_6 rfl rfl ?_
  refine a_iret rfl dX7_forcedDisruption_9 (by decide) (by decide) ?_
  exact ⟨rfl, rfl⟩
theorem c_X7_trackedKeys : aWr l X mX7_trackedKeys is19 [.ref 0] (aMo f v u k q) (some (.int (nI k.2))) (aMo 0 v u k q) := by
  refine aMt.of (by decide) rfl (Nat.le_of_ble_eq_true rfl) ?_
  refine a_aload_n dX7_trackedKeys_0 rfl ?_
  refine a_iconst 0 dX7_trackedKeys_1 (by decide) ?_
  refine a_put fp_X7_73 dX7_trackedKeys_2 rfl (Nat.le_of_ble_eq_true rfl) (fun _ => ⟨rfl, rfl⟩) ?_
  refine a_aload_n dX7_trackedKeys_5 rfl ?_
  refine a_get fl_X7_85 dX7_trackedKeys_6 rfl rfl ?_
  refine a_iret rfl dX7_trackedKeys_9 (by decide) (by decide) ?_
  exact ⟨rfl, rfl⟩
theorem c_X7_serverAt (h5 : 5 ≤ u.1) (hM : u.1 ≤ 61) (s : Int32) : aWr l X mX7_serverAt is19 [.ref 0, .int s] (aMo f v u k q) (some (.int (if sSl u.1 s then u.2.1 s.toNatClampNeg else 0))) (aMo (rF (!(sSl u.1 s)) false) v u k q) := by
  refine aMt.of (by decide) rfl (Nat.le_of_ble_eq_true rfl) ?_
  refine a_aload_n dX7_serverAt_0 rfl ?_
  refine a_iload_n dX7_serverAt_1 rfl ?_
  refine a_i2l dX7_serverAt_2 ?_
  refine a_lconst 0 dX7_serverAt_3 (by decide) ?_
  refine a_aload_n dX7_serverAt_4 rfl ?_
  refine a_get fl_X7_7 dX7_serverAt_5 rfl rfl ?_
  refine a_iconst 1 dX7_serverAt_8 (by decide) ?_
  refine a_isub dX7_serverAt_9 ?_
  refine a_i2l dX7_serverAt_10 ?_
  refine a_SiR [] k_X7_serverAt_93 (c_X7_in s.toInt64 0 (nI u.1 - 1).toInt64) dX7_serverAt_11 rfl rfl rfl rfl rfl (Nat.le_of_ble_eq_true rfl) ⟨Nat.le_of_ble_eq_true rfl, Nat.le_of_ble_eq_true rfl⟩ ⟨rfl, rfl⟩ ?_
  rw [mIn_sl (by omega) (by omega)]
  refine a_if_ne 21 dX7_serverAt_14 (by decide) (fun c14 => ?_) (fun c14 => ?_)
  · have hg := bI_1 c14
    rw [hg]
    refine a_iconst 0 dX7_serverAt_21 (by decide) ?_
    refine a_iconst 0 dX7_serverAt_22 (by decide) ?_
    refine a_ViW is19 (aMo 0 v u k q) k_X7_serverAt_124 (c_X7_isRefused (f := f) (v := v) (u := u) (k := k) (q := q) false false) dX7_serverAt_23 rfl rfl rfl rfl rfl rfl (Nat.le_of_ble_eq_true rfl) ⟨Nat.le_of_ble_eq_true rfl, Nat.le_of_ble_eq_true rfl⟩ ⟨rfl, rfl⟩ (Nat.le_of_ble_eq_true rfl) rfl ?_
    refine a_if_eq 33 dX7_serverAt_26 (by decide) (fun _ => ?_) (fun z => absurd (by decide) z)
    refine a_aload_n dX7_serverAt_33 rfl ?_
    refine a_get fl_X7_27 dX7_serverAt_34 rfl rfl ?_
    refine a_iload_n dX7_serverAt_37 rfl ?_
    refine a_iald dX7_serverAt_38 rfl (sSl_in hM hg) ?_
    refine a_iret rfl dX7_serverAt_39 (by decide) (by decide) ?_
    exact ⟨rfl, rfl⟩
  · have hg := bI_0 c14
    rw [hg]
    refine a_iconst 1 dX7_serverAt_17 (by decide) ?_
    refine a_goto 22 dX7_serverAt_18 (by decide) ?_
    refine a_iconst 0 dX7_serverAt_22 (by decide) ?_
    refine a_ViW is19 (aMo 1 v u k q) k_X7_serverAt_124 (c_X7_isRefused (f := f) (v := v) (u := u) (k := k) (q := q) true false) dX7_serverAt_23 rfl rfl rfl rfl rfl rfl (Nat.le_of_ble_eq_true rfl) ⟨Nat.le_of_ble_eq_true rfl, Nat.le_of_ble_eq_true rfl⟩ ⟨rfl, rfl⟩ (Nat.le_of_ble_eq_true rfl) rfl ?_
    refine a_if_eq 33 dX7_serverAt_26 (by decide) (fun z => absurd z (by decide)) (fun _ => ?_)
    refine a_iconst 0 dX7_serverAt_29 (by decide) ?_
    refine a_goto 39 dX7_serverAt_30 (by decide) ?_
    refine a_iret rfl dX7_serverAt_39 (by decide) (by decide) ?_
    exact ⟨rfl, rfl⟩
theorem c_X7_slotsNow (hM : u.1 ≤ 61) (s : Int32) : aRd l X mX7_slotsNow is19 [.ref 0, .int s] (aMo f v u k q) (.int (sOb u.2.1 u.1 s)) := by
  refine aMt.of (by decide) rfl (Nat.le_of_ble_eq_true rfl) ?_
  generalize hr : sOb u.2.1 u.1 s = r
  refine a_iconst 0 dX7_slotsNow_0 (by decide) ?_
  refine a_istore_n dX7_slotsNow_1 (by decide) rfl ?_
  refine a_iconst 0 dX7_slotsNow_2 (by decide) ?_
  refine a_istore_n dX7_slotsNow_3 (by decide) rfl ?_
  have lp : ∀ (n j : Nat) (a : Int32), j + n = u.1 → aLp (fun j c => if u.2.1 j = s then c + 1 else c) n j a = r → aJ l X mX7_slotsNow (aEd X mX7_slotsNow is19 (fun o h' => o = .inl (some (.int r)) ∧ h' = aMo f v u k q)) 0 0 4 [.ref 0, .int s, .int a, .int (nI j)] [] (aMo f v u k q) := by
    intro n
    induction n with
    | zero =>
      intro j a hj hq
      obtain rfl : j = u.1 := by omega
      refine a_iload_n dX7_slotsNow_4 rfl ?_
      refine a_aload_n dX7_slotsNow_5 rfl ?_
      refine a_get fl_X7_7 dX7_slotsNow_6 rfl rfl ?_
      refine a_icmp_ge 36 dX7_slotsNow_9 (by decide) (fun _ => ?_) (fun z => absurd (nI_le (Nat.le_refl _) (by omega)) z)
      refine a_iload_n dX7_slotsNow_36 rfl ?_
      refine a_iret rfl dX7_slotsNow_37 (by decide) (by decide) ?_
      exact ⟨by rw [← hq]; rfl, rfl⟩
    | succ n ih =>
      intro j a hj hq
      have hi : vp_in (nI j) 61 := in61 (by omega)
      refine a_iload_n dX7_slotsNow_4 rfl ?_
      refine a_aload_n dX7_slotsNow_5 rfl ?_
      refine a_get fl_X7_7 dX7_slotsNow_6 rfl rfl ?_
      refine a_icmp_ge 36 dX7_slotsNow_9 (by decide) (fun z => absurd z (nI_ge (by omega) (by omega))) (fun _ => ?_)
      refine a_iload_n dX7_slotsNow_12 rfl ?_
      refine a_aload_n dX7_slotsNow_13 rfl ?_
      refine a_get fl_X7_27 dX7_slotsNow_14 rfl rfl ?_
      refine a_iload_n dX7_slotsNow_17 rfl ?_
      refine a_iald dX7_slotsNow_18 rfl (by assumption) ?_
      refine a_iload_n dX7_slotsNow_19 rfl ?_
      refine a_icmp_ne 27 dX7_slotsNow_20 (by decide) (fun c20 => ?_) (fun c20 => ?_)
      · rw [cl61 (by omega)] at c20
        refine a_iconst 0 dX7_slotsNow_27 (by decide) ?_
        refine a_iadd dX7_slotsNow_28 ?_
        refine a_istore_n dX7_slotsNow_29 (by decide) rfl ?_
        refine a_iinc (nI (j + 1)) dX7_slotsNow_30 rfl (nI_1 _) (by decide) rfl ?_
        refine a_goto 4 dX7_slotsNow_33 (by decide) ?_
        exact ih (j + 1) (a + 0) (by omega) (by rw [← hq]; simp [aLp, c20])
      · rw [cl61 (by omega)] at c20
        refine a_iconst 1 dX7_slotsNow_23 (by decide) ?_
        refine a_goto 28 dX7_slotsNow_24 (by decide) ?_
        refine a_iadd dX7_slotsNow_28 ?_
        refine a_istore_n dX7_slotsNow_29 (by decide) rfl ?_
        refine a_iinc (nI (j + 1)) dX7_slotsNow_30 rfl (nI_1 _) (by decide) rfl ?_
        refine a_goto 4 dX7_slotsNow_33 (by decide) ?_
        exact ih (j + 1) (a + 1) (by omega) (by rw [← hq]; simp [aLp, c20])
  exact lp u.1 0 0 (by omega) hr
def mWs (v : sT) : Int32 := aLp (fun j c => if v.1 j = 2 then c + v.2.2.1 j else c) 10 0 0
def mId (v : sT) (M s : Nat) : UInt64 := if v.1 s = 2 then FP.ddiv (FP.i2d (nI M * v.2.2.1 s)) (FP.i2d (mWs v)) else FP.dconst0
theorem c_X7_ideal (s : Nat) (hs : s < 10) (hn : vf_n64 (mId v u.1 s)) : aRd l X mX7_ideal is19 [.ref 0, .int (nI s)] (aMo f v u k q) (.double (mId v u.1 s)) := by
  refine aMt.of (by decide) rfl (Nat.le_of_ble_eq_true rfl) ?_
  have hsi : vp_in (nI s) 10 := in10 hs
  generalize hr : mWs v = r
  refine a_iconst 0 dX7_ideal_0 (by decide) ?_
  refine a_istore_n dX7_ideal_1 (by decide) rfl ?_
  refine a_iconst 0 dX7_ideal_2 (by decide) ?_
  refine a_istore_n dX7_ideal_3 (by decide) rfl ?_
  have lp : ∀ (n j : Nat) (a : Int32), j + n = 10 → aLp (fun j c => if v.1 j = 2 then c + v.2.2.1 j else c) n j a = r → aJ l X mX7_ideal (aEd X mX7_ideal is19 (fun o h' => o = .inl (some (.double (mId v u.1 s))) ∧ h' = aMo f v u k q)) 0 0 4 [.ref 0, .int (nI s), .int a, .int (nI j)] [] (aMo f v u k q) := by
    intro n
    induction n with
    | zero =>
      intro j a hj hq
      obtain rfl : j = 10 := by omega
      obtain rfl : a = r := hq
      refine a_iload_n dX7_ideal_4 rfl ?_
      refine a_bipush 10 dX7_ideal_5 (by decide) ?_
      refine a_icmp_ge 39 dX7_ideal_7 (by decide) (fun _ => ?_) (fun z => absurd ge10_t z)
      refine a_aload_n dX7_ideal_39 rfl ?_
      refine a_get fl_X7_13 dX7_ideal_40 rfl rfl ?_
      refine a_iload_n dX7_ideal_43 rfl ?_
      refine a_iald dX7_ideal_44 rfl (by assumption) ?_
      refine a_iconst 2 dX7_ideal_45 (by decide) ?_
      refine a_icmp_ne 67 dX7_ideal_46 (by decide) (fun c46 => ?_) (fun c46 => ?_)
      · rw [cl10 hs] at c46
        refine a_dconst0 dX7_ideal_67 ?_
        refine a_dret rfl dX7_ideal_68 (by decide) (by decide) ?_
        exact ⟨by simp [mId, c46], rfl⟩
      · rw [cl10 hs] at c46
        have e : mId v u.1 s = FP.ddiv (FP.i2d (nI u.1 * v.2.2.1 s)) (FP.i2d a) := by unfold mId; rw [if_pos c46, hr]
        rw [e] at hn ⊢
        refine a_aload_n dX7_ideal_49 rfl ?_
        refine a_get fl_X7_7 dX7_ideal_50 rfl rfl ?_
        refine a_aload_n dX7_ideal_53 rfl ?_
        refine a_get fl_X7_20 dX7_ideal_54 rfl rfl ?_
        refine a_iload_n dX7_ideal_57 rfl ?_
        refine a_iald dX7_ideal_58 rfl (by assumption) ?_
        rw [cl10 hs]
        refine a_imul dX7_ideal_59 ?_
        refine a_i2d dX7_ideal_60 ?_
        refine a_iload_n dX7_ideal_61 rfl ?_
        refine a_i2d dX7_ideal_62 ?_
        refine a_ddiv dX7_ideal_63 hn ?_
        refine a_goto 68 dX7_ideal_64 (by decide) ?_
        refine a_dret rfl dX7_ideal_68 (by decide) (by decide) ?_
        exact ⟨rfl, rfl⟩
    | succ n ih =>
      intro j a hj hq
      have hi : vp_in (nI j) 10 := in10 (by omega)
      refine a_iload_n dX7_ideal_4 rfl ?_
      refine a_bipush 10 dX7_ideal_5 (by decide) ?_
      refine a_icmp_ge 39 dX7_ideal_7 (by decide) (fun z => absurd z (ge10_f (by omega))) (fun _ => ?_)
      refine a_iload_n dX7_ideal_10 rfl ?_
      refine a_aload_n dX7_ideal_11 rfl ?_
      refine a_get fl_X7_13 dX7_ideal_12 rfl rfl ?_
      refine a_iload_n dX7_ideal_15 rfl ?_
      refine a_iald dX7_ideal_16 rfl (by assumption) ?_
      refine a_iconst 2 dX7_ideal_17 (by decide) ?_
      refine a_icmp_ne 30 dX7_ideal_18 (by decide) (fun c18 => ?_) (fun c18 => ?_)
      · rw [cl10 (by omega)] at c18
        refine a_iconst 0 dX7_ideal_30 (by decide) ?_
        refine a_iadd dX7_ideal_31 ?_
        refine a_istore_n dX7_ideal_32 (by decide) rfl ?_
        refine a_iinc (nI (j + 1)) dX7_ideal_33 rfl (nI_1 _) (by decide) rfl ?_
        refine a_goto 4 dX7_ideal_36 (by decide) ?_
        exact ih (j + 1) (a + 0) (by omega) (by rw [← hq]; simp [aLp, c18])
      · rw [cl10 (by omega)] at c18
        refine a_aload_n dX7_ideal_21 rfl ?_
        refine a_get fl_X7_20 dX7_ideal_22 rfl rfl ?_
        refine a_iload_n dX7_ideal_25 rfl ?_
        refine a_iald dX7_ideal_26 rfl (by assumption) ?_
        refine a_goto 31 dX7_ideal_27 (by decide) ?_
        rw [cl10 (by omega)]
        refine a_iadd dX7_ideal_31 ?_
        refine a_istore_n dX7_ideal_32 (by decide) rfl ?_
        refine a_iinc (nI (j + 1)) dX7_ideal_33 rfl (nI_1 _) (by decide) rfl ?_
        refine a_goto 4 dX7_ideal_36 (by decide) ?_
        exact ih (j + 1) _ (by omega) (by rw [← hq]; simp [aLp, c18])
  exact lp 10 0 0 rfl hr
def mIt (v : sT) (u : uT) (s : Nat) : UInt64 := FP.ddiv (FP.i2d (sOb u.2.1 u.1 (nI s))) (mId v u.1 s)
def mIm (v : sT) (u : uT) (s : Nat) (a : UInt64) : UInt64 := if v.1 s = 2 then (if 0 < Op.cmpValue (FP.dcmp (mIt v u s) a) .l then mIt v u s else a) else a
theorem c_X7_imbalance (hM : u.1 ≤ 61) (hn : ∀ s, s < 10 → v.1 s = 2 → vf_n64 (mId v u.1 s)) (hn2 : ∀ s, s < 10 → v.1 s = 2 → vf_n64 (mIt v u s)) : aWr l X mX7_imbalance is19 [.ref 0] (aMo f v u k q) (some (.double (aLp (mIm v u) 10 0 FP.dconst0))) (aMo 0 v u k q) := by
  refine aMt.of (by decide) rfl (Nat.le_of_ble_eq_true rfl) ?_
  generalize hr : aLp (mIm v u) 10 0 FP.dconst0 = r
  refine a_aload_n dX7_imbalance_0 rfl ?_
  refine a_iconst 0 dX7_imbalance_1 (by decide) ?_
  refine a_put fp_X7_73 dX7_imbalance_2 rfl (Nat.le_of_ble_eq_true rfl) (fun _ => ⟨rfl, rfl⟩) ?_
  refine a_dconst0 dX7_imbalance_5 ?_
  refine a_dstore_n dX7_imbalance_6 (by decide) rfl ?_
  refine a_iconst 0 dX7_imbalance_7 (by decide) ?_
  refine a_istore_n dX7_imbalance_8 (by decide) rfl ?_
  have lp : ∀ (n j : Nat) (a : UInt64), j + n = 10 → aLp (mIm v u) n j a = r → aJ l X mX7_imbalance (aEd X mX7_imbalance is19 (fun o h' => o = .inl (some (.double r)) ∧ h' = aMo 0 v u k q)) 0 0 9 [.ref 0, .double a, .null, .int (nI j), .null, .null] [] (aMo 0 v u k q) := by
    intro n
    induction n with
    | zero =>
      intro j a hj hq
      obtain rfl : j = 10 := by omega
      refine a_iload_n dX7_imbalance_9 rfl ?_
      refine a_bipush 10 dX7_imbalance_10 (by decide) ?_
      refine a_icmp_ge 59 dX7_imbalance_12 (by decide) (fun _ => ?_) (fun z => absurd ge10_t z)
      refine a_dload_n dX7_imbalance_59 rfl ?_
      refine a_dret rfl dX7_imbalance_60 (by decide) (by decide) ?_
      exact ⟨by rw [← hq]; rfl, rfl⟩
    | succ n ih =>
      intro j a hj hq
      have hi : vp_in (nI j) 10 := in10 (by omega)
      refine a_iload_n dX7_imbalance_9 rfl ?_
      refine a_bipush 10 dX7_imbalance_10 (by decide) ?_
      refine a_icmp_ge 59 dX7_imbalance_12 (by decide) (fun z => absurd z (ge10_f (by omega))) (fun _ => ?_)
      refine a_aload_n dX7_imbalance_15 rfl ?_
      refine a_get fl_X7_13 dX7_imbalance_16 rfl rfl ?_
      refine a_iload_n dX7_imbalance_19 rfl ?_
      refine a_iald dX7_imbalance_20 rfl (by assumption) ?_
      refine a_iconst 2 dX7_imbalance_21 (by decide) ?_
      refine a_icmp_ne 53 dX7_imbalance_22 (by decide) (fun c22 => ?_) (fun c22 => ?_)
      · rw [cl10 (by omega)] at c22
        refine a_iinc (nI (j + 1)) dX7_imbalance_53 rfl (nI_1 _) (by decide) rfl ?_
        refine a_goto 9 dX7_imbalance_56 (by decide) ?_
        exact ih (j + 1) a (by omega) (by rw [← hq]; show _ = aLp (mIm v u) n (j + 1) (mIm v u j a); rw [show mIm v u j a = a by simp [mIm, c22]])
      · rw [cl10 (by omega)] at c22
        refine a_aload_n dX7_imbalance_25 rfl ?_
        refine a_iload_n dX7_imbalance_26 rfl ?_
        refine a_ViR is19 k_X7_imbalance_128 (c_X7_slotsNow (f := 0) (v := v) (u := u) (k := k) (q := q) hM (nI j)) dX7_imbalance_27 rfl rfl rfl rfl rfl rfl (Nat.le_of_ble_eq_true rfl) ⟨Nat.le_of_ble_eq_true rfl, Nat.le_of_ble_eq_true rfl⟩ ⟨rfl, rfl⟩ ?_
        refine a_i2d dX7_imbalance_30 ?_
        refine a_aload_n dX7_imbalance_31 rfl ?_
        refine a_iload_n dX7_imbalance_32 rfl ?_
        refine a_VdR is19 k_X7_imbalance_132 (c_X7_ideal (f := 0) (v := v) (u := u) (k := k) (q := q) j (by omega) (hn j (by omega) c22)) dX7_imbalance_33 rfl rfl rfl rfl rfl rfl (Nat.le_of_ble_eq_true rfl) ⟨Nat.le_of_ble_eq_true rfl, Nat.le_of_ble_eq_true rfl⟩ ⟨rfl, rfl⟩ ?_
        refine a_ddiv dX7_imbalance_36 (hn2 j (by omega) c22) ?_
        refine a_dstore dX7_imbalance_37 (by decide) rfl ?_
        refine a_dload dX7_imbalance_39 rfl ?_
        refine a_dload_n dX7_imbalance_41 rfl ?_
        refine a_dcmp dX7_imbalance_42 ?_
        refine a_if_le 51 dX7_imbalance_43 (by decide) (fun c43 => ?_) (fun c43 => ?_)
        · refine a_dload_n dX7_imbalance_51 rfl ?_
          refine a_dstore_n dX7_imbalance_52 (by decide) rfl ?_
          refine a_iinc (nI (j + 1)) dX7_imbalance_53 rfl (nI_1 _) (by decide) rfl ?_
          refine a_goto 9 dX7_imbalance_56 (by decide) ?_
          refine a_drop 4 ?_
          exact ih (j + 1) a (by omega) (by rw [← hq]; show _ = aLp (mIm v u) n (j + 1) (mIm v u j a); rw [show mIm v u j a = a from by unfold mIm; rw [if_pos c22, if_neg (by rw [i32_nlt]; exact c43)]])
        · refine a_dload dX7_imbalance_46 rfl ?_
          refine a_goto 52 dX7_imbalance_48 (by decide) ?_
          refine a_dstore_n dX7_imbalance_52 (by decide) rfl ?_
          refine a_iinc (nI (j + 1)) dX7_imbalance_53 rfl (nI_1 _) (by decide) rfl ?_
          refine a_goto 9 dX7_imbalance_56 (by decide) ?_
          refine a_drop 4 ?_
          exact ih (j + 1) _ (by omega) (by rw [← hq]; show _ = aLp (mIm v u) n (j + 1) (mIm v u j a); rw [show mIm v u j a = mIt v u j from by unfold mIm; rw [if_pos c22, if_pos (show 0 < Op.cmpValue (FP.dcmp (mIt v u j) a) .l from (i32_nle _ _).mp c43)]]; rfl)
  exact lp 10 0 FP.dconst0 rfl hr
def mNm (v : sT) (w : Int32) : Option Nat := aFo (fun j => decide (¬ v.1 j = 0) && decide (v.2.1 j = w)) 10 0
theorem c_X7_named (w : Int32) : aRd l X mX7_named is19 [.ref 0, .int w] (aMo f v u k q) (.int (oI (mNm v w))) := by
  refine aMt.of (by decide) rfl (Nat.le_of_ble_eq_true rfl) ?_
  generalize hr : mNm v w = r
  refine a_iconst 0 dX7_named_0 (by decide) ?_
  refine a_istore_n dX7_named_1 (by decide) rfl ?_
  have lp : ∀ (n j : Nat), j + n = 10 → aFo (fun j => decide (¬ v.1 j = 0) && decide (v.2.1 j = w)) n j = r → aJ l X mX7_named (aEd X mX7_named is19 (fun o h' => o = .inl (some (.int (oI r))) ∧ h' = aMo f v u k q)) 0 0 2 [.ref 0, .int w, .int (nI j)] [] (aMo f v u k q) := by
    intro n
    induction n with
    | zero =>
      intro j hj hq
      obtain rfl : j = 10 := by omega
      refine a_iload_n dX7_named_2 rfl ?_
      refine a_bipush 10 dX7_named_3 (by decide) ?_
      refine a_icmp_ge 35 dX7_named_5 (by decide) (fun _ => ?_) (fun z => absurd ge10_t z)
      refine a_iconst (-1) dX7_named_35 (by decide) ?_
      refine a_iret rfl dX7_named_36 (by decide) (by decide) ?_
      exact ⟨by rw [← hq]; rfl, rfl⟩
    | succ n ih =>
      intro j hj hq
      have hi : vp_in (nI j) 10 := in10 (by omega)
      refine a_iload_n dX7_named_2 rfl ?_
      refine a_bipush 10 dX7_named_3 (by decide) ?_
      refine a_icmp_ge 35 dX7_named_5 (by decide) (fun z => absurd z (ge10_f (by omega))) (fun _ => ?_)
      refine a_aload_n dX7_named_8 rfl ?_
      refine a_get fl_X7_13 dX7_named_9 rfl rfl ?_
      refine a_iload_n dX7_named_12 rfl ?_
      refine a_iald dX7_named_13 rfl (by assumption) ?_
      refine a_if_eq 29 dX7_named_14 (by decide) (fun c14 => ?_) (fun c14 => ?_)
      · rw [cl10 (by omega)] at c14
        refine a_iinc (nI (j + 1)) dX7_named_29 rfl (nI_1 _) (by decide) rfl ?_
        refine a_goto 2 dX7_named_32 (by decide) ?_
        exact ih (j + 1) (by omega) (by rw [← hq]; simp [aFo, c14])
      · rw [cl10 (by omega)] at c14
        refine a_aload_n dX7_named_17 rfl ?_
        refine a_get fl_X7_17 dX7_named_18 rfl rfl ?_
        refine a_iload_n dX7_named_21 rfl ?_
        refine a_iald dX7_named_22 rfl (by assumption) ?_
        refine a_iload_n dX7_named_23 rfl ?_
        refine a_icmp_ne 29 dX7_named_24 (by decide) (fun c24 => ?_) (fun c24 => ?_)
        · rw [cl10 (by omega)] at c24
          refine a_iinc (nI (j + 1)) dX7_named_29 rfl (nI_1 _) (by decide) rfl ?_
          refine a_goto 2 dX7_named_32 (by decide) ?_
          exact ih (j + 1) (by omega) (by rw [← hq]; simp [aFo, c24])
        · rw [cl10 (by omega)] at c24
          refine a_iload_n dX7_named_27 rfl ?_
          refine a_iret rfl dX7_named_28 (by decide) (by decide) ?_
          exact ⟨by rw [← hq]; simp [aFo, c14, c24, oI], rfl⟩
  exact lp 10 0 rfl hr
def mCt (v : sT) : Int32 := aLp (fun j c => if v.1 j = 0 then c else c + 1) 10 0 0
theorem c_X7_count : aRd l X mX7_count is19 [.ref 0] (aMo f v u k q) (.int (mCt v)) := by
  refine aMt.of (by decide) rfl (Nat.le_of_ble_eq_true rfl) ?_
  generalize hr : mCt v = r
  refine a_iconst 0 dX7_count_0 (by decide) ?_
  refine a_istore_n dX7_count_1 (by decide) rfl ?_
  refine a_iconst 0 dX7_count_2 (by decide) ?_
  refine a_istore_n dX7_count_3 (by decide) rfl ?_
  have lp : ∀ (n j : Nat) (a : Int32), j + n = 10 → aLp (fun j c => if v.1 j = 0 then c else c + 1) n j a = r → aJ l X mX7_count (aEd X mX7_count is19 (fun o h' => o = .inl (some (.int r)) ∧ h' = aMo f v u k q)) 0 0 4 [.ref 0, .int a, .int (nI j)] [] (aMo f v u k q) := by
    intro n
    induction n with
    | zero =>
      intro j a hj hq
      obtain rfl : j = 10 := by omega
      refine a_iload_n dX7_count_4 rfl ?_
      refine a_bipush 10 dX7_count_5 (by decide) ?_
      refine a_icmp_ge 33 dX7_count_7 (by decide) (fun _ => ?_) (fun z => absurd ge10_t z)
      refine a_iload_n dX7_count_33 rfl ?_
      refine a_iret rfl dX7_count_34 (by decide) (by decide) ?_
      exact ⟨by rw [← hq]; rfl, rfl⟩
    | succ n ih =>
      intro j a hj hq
      have hi : vp_in (nI j) 10 := in10 (by omega)
      refine a_iload_n dX7_count_4 rfl ?_
      refine a_bipush 10 dX7_count_5 (by decide) ?_
      refine a_icmp_ge 33 dX7_count_7 (by decide) (fun z => absurd z (ge10_f (by omega))) (fun _ => ?_)
      refine a_iload_n dX7_count_10 rfl ?_
      refine a_aload_n dX7_count_11 rfl ?_
      refine a_get fl_X7_13 dX7_count_12 rfl rfl ?_
      refine a_iload_n dX7_count_15 rfl ?_
      refine a_iald dX7_count_16 rfl (by assumption) ?_
      refine a_if_eq 24 dX7_count_17 (by decide) (fun c17 => ?_) (fun c17 => ?_)
      · rw [cl10 (by omega)] at c17
        refine a_iconst 0 dX7_count_24 (by decide) ?_
        refine a_iadd dX7_count_25 ?_
        refine a_istore_n dX7_count_26 (by decide) rfl ?_
        refine a_iinc (nI (j + 1)) dX7_count_27 rfl (nI_1 _) (by decide) rfl ?_
        refine a_goto 4 dX7_count_30 (by decide) ?_
        exact ih (j + 1) (a + 0) (by omega) (by rw [← hq]; simp [aLp, c17])
      · rw [cl10 (by omega)] at c17
        refine a_iconst 1 dX7_count_20 (by decide) ?_
        refine a_goto 25 dX7_count_21 (by decide) ?_
        refine a_iadd dX7_count_25 ?_
        refine a_istore_n dX7_count_26 (by decide) rfl ?_
        refine a_iinc (nI (j + 1)) dX7_count_27 rfl (nI_1 _) (by decide) rfl ?_
        refine a_goto 4 dX7_count_30 (by decide) ?_
        exact ih (j + 1) (a + 1) (by omega) (by rw [← hq]; simp [aLp, c17])
  exact lp 10 0 0 rfl hr
def mUc (v : sT) : Int32 := aLp (fun j c => if v.1 j = 2 then c + 1 else c) 10 0 0
theorem c_X7_ups : aRd l X mX7_ups is19 [.ref 0] (aMo f v u k q) (.int (mUc v)) := by
  refine aMt.of (by decide) rfl (Nat.le_of_ble_eq_true rfl) ?_
  generalize hr : mUc v = r
  refine a_iconst 0 dX7_ups_0 (by decide) ?_
  refine a_istore_n dX7_ups_1 (by decide) rfl ?_
  refine a_iconst 0 dX7_ups_2 (by decide) ?_
  refine a_istore_n dX7_ups_3 (by decide) rfl ?_
  have lp : ∀ (n j : Nat) (a : Int32), j + n = 10 → aLp (fun j c => if v.1 j = 2 then c + 1 else c) n j a = r → aJ l X mX7_ups (aEd X mX7_ups is19 (fun o h' => o = .inl (some (.int r)) ∧ h' = aMo f v u k q)) 0 0 4 [.ref 0, .int a, .int (nI j)] [] (aMo f v u k q) := by
    intro n
    induction n with
    | zero =>
      intro j a hj hq
      obtain rfl : j = 10 := by omega
      refine a_iload_n dX7_ups_4 rfl ?_
      refine a_bipush 10 dX7_ups_5 (by decide) ?_
      refine a_icmp_ge 34 dX7_ups_7 (by decide) (fun _ => ?_) (fun z => absurd ge10_t z)
      refine a_iload_n dX7_ups_34 rfl ?_
      refine a_iret rfl dX7_ups_35 (by decide) (by decide) ?_
      exact ⟨by rw [← hq]; rfl, rfl⟩
    | succ n ih =>
      intro j a hj hq
      have hi : vp_in (nI j) 10 := in10 (by omega)
      refine a_iload_n dX7_ups_4 rfl ?_
      refine a_bipush 10 dX7_ups_5 (by decide) ?_
      refine a_icmp_ge 34 dX7_ups_7 (by decide) (fun z => absurd z (ge10_f (by omega))) (fun _ => ?_)
      refine a_iload_n dX7_ups_10 rfl ?_
      refine a_aload_n dX7_ups_11 rfl ?_
      refine a_get fl_X7_13 dX7_ups_12 rfl rfl ?_
      refine a_iload_n dX7_ups_15 rfl ?_
      refine a_iald dX7_ups_16 rfl (by assumption) ?_
      refine a_iconst 2 dX7_ups_17 (by decide) ?_
      refine a_icmp_ne 25 dX7_ups_18 (by decide) (fun c18 => ?_) (fun c18 => ?_)
      · rw [cl10 (by omega)] at c18
        refine a_iconst 0 dX7_ups_25 (by decide) ?_
        refine a_iadd dX7_ups_26 ?_
        refine a_istore_n dX7_ups_27 (by decide) rfl ?_
        refine a_iinc (nI (j + 1)) dX7_ups_28 rfl (nI_1 _) (by decide) rfl ?_
        refine a_goto 4 dX7_ups_31 (by decide) ?_
        exact ih (j + 1) (a + 0) (by omega) (by rw [← hq]; simp [aLp, c18])
      · rw [cl10 (by omega)] at c18
        refine a_iconst 1 dX7_ups_21 (by decide) ?_
        refine a_goto 26 dX7_ups_22 (by decide) ?_
        refine a_iadd dX7_ups_26 ?_
        refine a_istore_n dX7_ups_27 (by decide) rfl ?_
        refine a_iinc (nI (j + 1)) dX7_ups_28 rfl (nI_1 _) (by decide) rfl ?_
        refine a_goto 4 dX7_ups_31 (by decide) ?_
        exact ih (j + 1) (a + 1) (by omega) (by rw [← hq]; simp [aLp, c18])
  exact lp 10 0 0 rfl hr
theorem c_X7_serverCount : aWr l X mX7_serverCount is19 [.ref 0] (aMo f v u k q) (some (.int (mCt v))) (aMo 0 v u k q) := by
  refine aMt.of (by decide) rfl (Nat.le_of_ble_eq_true rfl) ?_
  refine a_aload_n dX7_serverCount_0 rfl ?_
  refine a_iconst 0 dX7_serverCount_1 (by decide) ?_
  refine a_put fp_X7_73 dX7_serverCount_2 rfl (Nat.le_of_ble_eq_true rfl) (fun _ => ⟨rfl, rfl⟩) ?_
  refine a_aload_n dX7_serverCount_5 rfl ?_
  refine a_ViR is19 k_X7_serverCount_152 (c_X7_count (f := 0) (v := v) (u := u) (k := k) (q := q)) dX7_serverCount_6 rfl rfl rfl rfl rfl rfl (Nat.le_of_ble_eq_true rfl) ⟨Nat.le_of_ble_eq_true rfl, Nat.le_of_ble_eq_true rfl⟩ ⟨rfl, rfl⟩ ?_
  refine a_iret rfl dX7_serverCount_9 (by decide) (by decide) ?_
  exact ⟨rfl, rfl⟩
theorem c_X7_serverNamed (n : Int32) : aWr l X mX7_serverNamed is19 [.ref 0, .int n] (aMo f v u k q) (some (.int (if gNm n then oI (mNm v n) else 0))) (aMo (rF (!(gNm n)) false) v u k q) := by
  refine aMt.of (by decide) rfl (Nat.le_of_ble_eq_true rfl) ?_
  have hc := c_X7_noName (l := l) (X := X) n
  by_cases hg : gNm n = true
  · rw [hg] at hc ⊢
    refine a_aload_n dX7_serverNamed_0 rfl ?_
    refine a_iload_n dX7_serverNamed_1 rfl ?_
    refine a_SiR [] k_X7_serverNamed_143 (hc) dX7_serverNamed_2 rfl rfl rfl rfl rfl (Nat.le_of_ble_eq_true rfl) ⟨Nat.le_of_ble_eq_true rfl, Nat.le_of_ble_eq_true rfl⟩ ⟨rfl, rfl⟩ ?_
    refine a_iconst 0 dX7_serverNamed_5 (by decide) ?_
    refine a_ViW is19 (aMo 0 v u k q) k_X7_serverNamed_124 (c_X7_isRefused (f := f) (v := v) (u := u) (k := k) (q := q) false false) dX7_serverNamed_6 rfl rfl rfl rfl rfl rfl (Nat.le_of_ble_eq_true rfl) ⟨Nat.le_of_ble_eq_true rfl, Nat.le_of_ble_eq_true rfl⟩ ⟨rfl, rfl⟩ (Nat.le_of_ble_eq_true rfl) rfl ?_
    refine a_if_eq 16 dX7_serverNamed_9 (by decide) (fun _ => ?_) (fun z => absurd (by decide) z)
    refine a_aload_n dX7_serverNamed_16 rfl ?_
    refine a_iload_n dX7_serverNamed_17 rfl ?_
    refine a_ViR is19 k_X7_serverNamed_149 (c_X7_named (f := 0) (v := v) (u := u) (k := k) (q := q) n) dX7_serverNamed_18 rfl rfl rfl rfl rfl rfl (Nat.le_of_ble_eq_true rfl) ⟨Nat.le_of_ble_eq_true rfl, Nat.le_of_ble_eq_true rfl⟩ ⟨rfl, rfl⟩ ?_
    refine a_iret rfl dX7_serverNamed_21 (by decide) (by decide) ?_
    exact ⟨rfl, rfl⟩
  · rw [Bool.not_eq_true] at hg
    rw [hg] at hc ⊢
    refine a_aload_n dX7_serverNamed_0 rfl ?_
    refine a_iload_n dX7_serverNamed_1 rfl ?_
    refine a_SiR [] k_X7_serverNamed_143 (hc) dX7_serverNamed_2 rfl rfl rfl rfl rfl (Nat.le_of_ble_eq_true rfl) ⟨Nat.le_of_ble_eq_true rfl, Nat.le_of_ble_eq_true rfl⟩ ⟨rfl, rfl⟩ ?_
    refine a_iconst 0 dX7_serverNamed_5 (by decide) ?_
    refine a_ViW is19 (aMo 1 v u k q) k_X7_serverNamed_124 (c_X7_isRefused (f := f) (v := v) (u := u) (k := k) (q := q) true false) dX7_serverNamed_6 rfl rfl rfl rfl rfl rfl (Nat.le_of_ble_eq_true rfl) ⟨Nat.le_of_ble_eq_true rfl, Nat.le_of_ble_eq_true rfl⟩ ⟨rfl, rfl⟩ (Nat.le_of_ble_eq_true rfl) rfl ?_
    refine a_if_eq 16 dX7_serverNamed_9 (by decide) (fun z => absurd z (by decide)) (fun _ => ?_)
    refine a_iconst 0 dX7_serverNamed_12 (by decide) ?_
    refine a_goto 21 dX7_serverNamed_13 (by decide) ?_
    refine a_iret rfl dX7_serverNamed_21 (by decide) (by decide) ?_
    exact ⟨rfl, rfl⟩
theorem c_X7_slotsOf (hM : u.1 ≤ 61) (s : Int32) : aWr l X mX7_slotsOf is19 [.ref 0, .int s] (aMo f v u k q) (some (.int (if fHs v.1 s then sOb u.2.1 u.1 s else 0))) (aMo (rF (!(fHs v.1 s)) false) v u k q) := by
  refine aMt.of (by decide) rfl (Nat.le_of_ble_eq_true rfl) ?_
  have hc := c_X7_noServer (l := l) (X := X) (f := f) (v := v) (u := u) (k := k) (q := q) s
  by_cases hg : fHs v.1 s = true
  · rw [hg] at hc ⊢
    refine a_aload_n dX7_slotsOf_0 rfl ?_
    refine a_aload_n dX7_slotsOf_1 rfl ?_
    refine a_iload_n dX7_slotsOf_2 rfl ?_
    refine a_ViR is19 k_X7_slotsOf_158 (hc) dX7_slotsOf_3 rfl rfl rfl rfl rfl rfl (Nat.le_of_ble_eq_true rfl) ⟨Nat.le_of_ble_eq_true rfl, Nat.le_of_ble_eq_true rfl⟩ ⟨rfl, rfl⟩ ?_
    refine a_iconst 0 dX7_slotsOf_6 (by decide) ?_
    refine a_ViW is19 (aMo 0 v u k q) k_X7_slotsOf_124 (c_X7_isRefused (f := f) (v := v) (u := u) (k := k) (q := q) false false) dX7_slotsOf_7 rfl rfl rfl rfl rfl rfl (Nat.le_of_ble_eq_true rfl) ⟨Nat.le_of_ble_eq_true rfl, Nat.le_of_ble_eq_true rfl⟩ ⟨rfl, rfl⟩ (Nat.le_of_ble_eq_true rfl) rfl ?_
    refine a_if_eq 17 dX7_slotsOf_10 (by decide) (fun _ => ?_) (fun z => absurd (by decide) z)
    refine a_aload_n dX7_slotsOf_17 rfl ?_
    refine a_iload_n dX7_slotsOf_18 rfl ?_
    refine a_ViR is19 k_X7_slotsOf_128 (c_X7_slotsNow (f := 0) (v := v) (u := u) (k := k) (q := q) hM s) dX7_slotsOf_19 rfl rfl rfl rfl rfl rfl (Nat.le_of_ble_eq_true rfl) ⟨Nat.le_of_ble_eq_true rfl, Nat.le_of_ble_eq_true rfl⟩ ⟨rfl, rfl⟩ ?_
    refine a_iret rfl dX7_slotsOf_22 (by decide) (by decide) ?_
    exact ⟨rfl, rfl⟩
  · rw [Bool.not_eq_true] at hg
    rw [hg] at hc ⊢
    refine a_aload_n dX7_slotsOf_0 rfl ?_
    refine a_aload_n dX7_slotsOf_1 rfl ?_
    refine a_iload_n dX7_slotsOf_2 rfl ?_
    refine a_ViR is19 k_X7_slotsOf_158 (hc) dX7_slotsOf_3 rfl rfl rfl rfl rfl rfl (Nat.le_of_ble_eq_true rfl) ⟨Nat.le_of_ble_eq_true rfl, Nat.le_of_ble_eq_true rfl⟩ ⟨rfl, rfl⟩ ?_
    refine a_iconst 0 dX7_slotsOf_6 (by decide) ?_
    refine a_ViW is19 (aMo 1 v u k q) k_X7_slotsOf_124 (c_X7_isRefused (f := f) (v := v) (u := u) (k := k) (q := q) true false) dX7_slotsOf_7 rfl rfl rfl rfl rfl rfl (Nat.le_of_ble_eq_true rfl) ⟨Nat.le_of_ble_eq_true rfl, Nat.le_of_ble_eq_true rfl⟩ ⟨rfl, rfl⟩ (Nat.le_of_ble_eq_true rfl) rfl ?_
    refine a_if_eq 17 dX7_slotsOf_10 (by decide) (fun z => absurd z (by decide)) (fun _ => ?_)
    refine a_iconst 0 dX7_slotsOf_13 (by decide) ?_
    refine a_goto 22 dX7_slotsOf_14 (by decide) ?_
    refine a_iret rfl dX7_slotsOf_22 (by decide) (by decide) ?_
    exact ⟨rfl, rfl⟩
theorem c_X7_idealShare (s : Int32) (hn : fHs v.1 s = true → vf_n64 (mId v u.1 s.toNatClampNeg)) : aWr l X mX7_idealShare is19 [.ref 0, .int s] (aMo f v u k q) (some (.double (if fHs v.1 s then mId v u.1 s.toNatClampNeg else FP.dconst0))) (aMo (rF (!(fHs v.1 s)) false) v u k q) := by
  refine aMt.of (by decide) rfl (Nat.le_of_ble_eq_true rfl) ?_
  have hc := c_X7_noServer (l := l) (X := X) (f := f) (v := v) (u := u) (k := k) (q := q) s
  by_cases hg : fHs v.1 s = true
  · have hn' := hn hg
    obtain ⟨i, hi, rfl⟩ := vp_in_of (fHs_in hg) (by decide)
    rw [cl10 hi] at hn' ⊢
    rw [hg] at hc ⊢
    refine a_aload_n dX7_idealShare_0 rfl ?_
    refine a_aload_n dX7_idealShare_1 rfl ?_
    refine a_iload_n dX7_idealShare_2 rfl ?_
    refine a_ViR is19 k_X7_idealShare_158 (hc) dX7_idealShare_3 rfl rfl rfl rfl rfl rfl (Nat.le_of_ble_eq_true rfl) ⟨Nat.le_of_ble_eq_true rfl, Nat.le_of_ble_eq_true rfl⟩ ⟨rfl, rfl⟩ ?_
    refine a_iconst 0 dX7_idealShare_6 (by decide) ?_
    refine a_ViW is19 (aMo 0 v u k q) k_X7_idealShare_124 (c_X7_isRefused (f := f) (v := v) (u := u) (k := k) (q := q) false false) dX7_idealShare_7 rfl rfl rfl rfl rfl rfl (Nat.le_of_ble_eq_true rfl) ⟨Nat.le_of_ble_eq_true rfl, Nat.le_of_ble_eq_true rfl⟩ ⟨rfl, rfl⟩ (Nat.le_of_ble_eq_true rfl) rfl ?_
    refine a_if_eq 17 dX7_idealShare_10 (by decide) (fun _ => ?_) (fun z => absurd (by decide) z)
    refine a_aload_n dX7_idealShare_17 rfl ?_
    refine a_iload_n dX7_idealShare_18 rfl ?_
    refine a_VdR is19 k_X7_idealShare_132 (c_X7_ideal (f := 0) (v := v) (u := u) (k := k) (q := q) i hi hn') dX7_idealShare_19 rfl rfl rfl rfl rfl rfl (Nat.le_of_ble_eq_true rfl) ⟨Nat.le_of_ble_eq_true rfl, Nat.le_of_ble_eq_true rfl⟩ ⟨rfl, rfl⟩ ?_
    refine a_dret rfl dX7_idealShare_22 (by decide) (by decide) ?_
    exact ⟨rfl, rfl⟩
  · rw [Bool.not_eq_true] at hg
    rw [hg] at hc ⊢
    refine a_aload_n dX7_idealShare_0 rfl ?_
    refine a_aload_n dX7_idealShare_1 rfl ?_
    refine a_iload_n dX7_idealShare_2 rfl ?_
    refine a_ViR is19 k_X7_idealShare_158 (hc) dX7_idealShare_3 rfl rfl rfl rfl rfl rfl (Nat.le_of_ble_eq_true rfl) ⟨Nat.le_of_ble_eq_true rfl, Nat.le_of_ble_eq_true rfl⟩ ⟨rfl, rfl⟩ ?_
    refine a_iconst 0 dX7_idealShare_6 (by decide) ?_
    refine a_ViW is19 (aMo 1 v u k q) k_X7_idealShare_124 (c_X7_isRefused (f := f) (v := v) (u := u) (k := k) (q := q) true false) dX7_idealShare_7 rfl rfl rfl rfl rfl rfl (Nat.le_of_ble_eq_true rfl) ⟨Nat.le_of_ble_eq_true rfl, Nat.le_of_ble_eq_true rfl⟩ ⟨rfl, rfl⟩ (Nat.le_of_ble_eq_true rfl) rfl ?_
    refine a_if_eq 17 dX7_idealShare_10 (by decide) (fun z => absurd z (by decide)) (fun _ => ?_)
    refine a_dconst0 dX7_idealShare_13 ?_
    refine a_goto 22 dX7_idealShare_14 (by decide) ?_
    refine a_dret rfl dX7_idealShare_22 (by decide) (by decide) ?_
    exact ⟨rfl, rfl⟩
theorem c_X7_loadOf (s : Int32) : aWr l X mX7_loadOf is19 [.ref 0, .int s] (aMo f v u k q) (some (.long (if fHs v.1 s then v.2.2.2.1 s.toNatClampNeg else 0))) (aMo (rF (!(fHs v.1 s)) false) v u k q) := by
  refine aMt.of (by decide) rfl (Nat.le_of_ble_eq_true rfl) ?_
  have hc := c_X7_noServer (l := l) (X := X) (f := f) (v := v) (u := u) (k := k) (q := q) s
  by_cases hg : fHs v.1 s = true
  · have hi := fHs_in hg
    rw [hg] at hc ⊢
    refine a_aload_n dX7_loadOf_0 rfl ?_
    refine a_aload_n dX7_loadOf_1 rfl ?_
    refine a_iload_n dX7_loadOf_2 rfl ?_
    refine a_ViR is19 k_X7_loadOf_158 (hc) dX7_loadOf_3 rfl rfl rfl rfl rfl rfl (Nat.le_of_ble_eq_true rfl) ⟨Nat.le_of_ble_eq_true rfl, Nat.le_of_ble_eq_true rfl⟩ ⟨rfl, rfl⟩ ?_
    refine a_iconst 0 dX7_loadOf_6 (by decide) ?_
    refine a_ViW is19 (aMo 0 v u k q) k_X7_loadOf_124 (c_X7_isRefused (f := f) (v := v) (u := u) (k := k) (q := q) false false) dX7_loadOf_7 rfl rfl rfl rfl rfl rfl (Nat.le_of_ble_eq_true rfl) ⟨Nat.le_of_ble_eq_true rfl, Nat.le_of_ble_eq_true rfl⟩ ⟨rfl, rfl⟩ (Nat.le_of_ble_eq_true rfl) rfl ?_
    refine a_if_eq 17 dX7_loadOf_10 (by decide) (fun _ => ?_) (fun z => absurd (by decide) z)
    refine a_aload_n dX7_loadOf_17 rfl ?_
    refine a_get fl_X7_23 dX7_loadOf_18 rfl rfl ?_
    refine a_iload_n dX7_loadOf_21 rfl ?_
    refine a_lald dX7_loadOf_22 rfl (by assumption) ?_
    refine a_lret rfl dX7_loadOf_23 (by decide) (by decide) ?_
    exact ⟨rfl, rfl⟩
  · rw [Bool.not_eq_true] at hg
    rw [hg] at hc ⊢
    refine a_aload_n dX7_loadOf_0 rfl ?_
    refine a_aload_n dX7_loadOf_1 rfl ?_
    refine a_iload_n dX7_loadOf_2 rfl ?_
    refine a_ViR is19 k_X7_loadOf_158 (hc) dX7_loadOf_3 rfl rfl rfl rfl rfl rfl (Nat.le_of_ble_eq_true rfl) ⟨Nat.le_of_ble_eq_true rfl, Nat.le_of_ble_eq_true rfl⟩ ⟨rfl, rfl⟩ ?_
    refine a_iconst 0 dX7_loadOf_6 (by decide) ?_
    refine a_ViW is19 (aMo 1 v u k q) k_X7_loadOf_124 (c_X7_isRefused (f := f) (v := v) (u := u) (k := k) (q := q) true false) dX7_loadOf_7 rfl rfl rfl rfl rfl rfl (Nat.le_of_ble_eq_true rfl) ⟨Nat.le_of_ble_eq_true rfl, Nat.le_of_ble_eq_true rfl⟩ ⟨rfl, rfl⟩ (Nat.le_of_ble_eq_true rfl) rfl ?_
    refine a_if_eq 17 dX7_loadOf_10 (by decide) (fun z => absurd z (by decide)) (fun _ => ?_)
    refine a_lconst 0 dX7_loadOf_13 (by decide) ?_
    refine a_goto 23 dX7_loadOf_14 (by decide) ?_
    refine a_lret rfl dX7_loadOf_23 (by decide) (by decide) ?_
    exact ⟨rfl, rfl⟩
theorem c_X7_preference_bad (h5 : 5 ≤ u.1) (hM : u.1 ≤ 61) (s j : Int32) (hg : (fHs v.1 s && sSl u.1 j) = false) : aWr l X mX7_preference is19 [.ref 0, .int s, .int j] (aMo f v u k q) (some (.int 0)) (aMo 1 v u k q) := by
  refine aMt.of (by decide) rfl (Nat.le_of_ble_eq_true rfl) ?_
  have hc := c_X7_noServer (l := l) (X := X) (f := f) (v := v) (u := u) (k := k) (q := q) s
  by_cases h1 : fHs v.1 s = true
  · rw [h1] at hc hg
    have h2 : sSl u.1 j = false := by simpa using hg
    refine a_aload_n dX7_preference_0 rfl ?_
    refine a_aload_n dX7_preference_1 rfl ?_
    refine a_iload_n dX7_preference_2 rfl ?_
    refine a_ViR is19 k_X7_preference_158 (hc) dX7_preference_3 rfl rfl rfl rfl rfl rfl (Nat.le_of_ble_eq_true rfl) ⟨Nat.le_of_ble_eq_true rfl, Nat.le_of_ble_eq_true rfl⟩ ⟨rfl, rfl⟩ ?_
    refine a_if_ne 25 dX7_preference_6 (by decide) (fun z => absurd (by decide) z) (fun _ => ?_)
    refine a_iload_n dX7_preference_9 rfl ?_
    refine a_i2l dX7_preference_10 ?_
    refine a_lconst 0 dX7_preference_11 (by decide) ?_
    refine a_aload_n dX7_preference_12 rfl ?_
    refine a_get fl_X7_7 dX7_preference_13 rfl rfl ?_
    refine a_iconst 1 dX7_preference_16 (by decide) ?_
    refine a_isub dX7_preference_17 ?_
    refine a_i2l dX7_preference_18 ?_
    refine a_SiR [] k_X7_preference_93 (c_X7_in j.toInt64 0 (nI u.1 - 1).toInt64) dX7_preference_19 rfl rfl rfl rfl rfl (Nat.le_of_ble_eq_true rfl) ⟨Nat.le_of_ble_eq_true rfl, Nat.le_of_ble_eq_true rfl⟩ ⟨rfl, rfl⟩ ?_
    rw [mIn_sl (by omega) (by omega), h2]
    refine a_if_ne 29 dX7_preference_22 (by decide) (fun z => absurd (by decide) z) (fun _ => ?_)
    refine a_iconst 1 dX7_preference_25 (by decide) ?_
    refine a_goto 30 dX7_preference_26 (by decide) ?_
    refine a_iconst 0 dX7_preference_30 (by decide) ?_
    refine a_ViW is19 (aMo 1 v u k q) k_X7_preference_124 (c_X7_isRefused (f := f) (v := v) (u := u) (k := k) (q := q) true false) dX7_preference_31 rfl rfl rfl rfl rfl rfl (Nat.le_of_ble_eq_true rfl) ⟨Nat.le_of_ble_eq_true rfl, Nat.le_of_ble_eq_true rfl⟩ ⟨rfl, rfl⟩ (Nat.le_of_ble_eq_true rfl) rfl ?_
    refine a_if_eq 41 dX7_preference_34 (by decide) (fun z => absurd z (by decide)) (fun _ => ?_)
    refine a_iconst 0 dX7_preference_37 (by decide) ?_
    refine a_goto 47 dX7_preference_38 (by decide) ?_
    refine a_iret rfl dX7_preference_47 (by decide) (by decide) ?_
    exact ⟨rfl, rfl⟩
  · rw [Bool.not_eq_true] at h1
    rw [h1] at hc
    refine a_aload_n dX7_preference_0 rfl ?_
    refine a_aload_n dX7_preference_1 rfl ?_
    refine a_iload_n dX7_preference_2 rfl ?_
    refine a_ViR is19 k_X7_preference_158 (hc) dX7_preference_3 rfl rfl rfl rfl rfl rfl (Nat.le_of_ble_eq_true rfl) ⟨Nat.le_of_ble_eq_true rfl, Nat.le_of_ble_eq_true rfl⟩ ⟨rfl, rfl⟩ ?_
    refine a_if_ne 25 dX7_preference_6 (by decide) (fun _ => ?_) (fun z => absurd z (by decide))
    refine a_iconst 1 dX7_preference_25 (by decide) ?_
    refine a_goto 30 dX7_preference_26 (by decide) ?_
    refine a_iconst 0 dX7_preference_30 (by decide) ?_
    refine a_ViW is19 (aMo 1 v u k q) k_X7_preference_124 (c_X7_isRefused (f := f) (v := v) (u := u) (k := k) (q := q) true false) dX7_preference_31 rfl rfl rfl rfl rfl rfl (Nat.le_of_ble_eq_true rfl) ⟨Nat.le_of_ble_eq_true rfl, Nat.le_of_ble_eq_true rfl⟩ ⟨rfl, rfl⟩ (Nat.le_of_ble_eq_true rfl) rfl ?_
    refine a_if_eq 41 dX7_preference_34 (by decide) (fun z => absurd z (by decide)) (fun _ => ?_)
    refine a_iconst 0 dX7_preference_37 (by decide) ?_
    refine a_goto 47 dX7_preference_38 (by decide) ?_
    refine a_iret rfl dX7_preference_47 (by decide) (by decide) ?_
    exact ⟨rfl, rfl⟩
theorem c_X7_preference_ok (h5 : 5 ≤ u.1) (hM : u.1 ≤ 61) (s j n : Nat) (hs : s < 10) (hj : j < u.1) (hh : fHs v.1 (nI s) = true) (hnm : v.2.1 s = nI n) (hn : n ≤ 9999) : aWr l X mX7_preference is19 [.ref 0, .int (nI s), .int (nI j)] (aMo f v u k q) (some (.int (nI (pPf u.1 n j)))) (aMo 0 v u k q) := by
  refine aMt.of (by decide) rfl (Nat.le_of_ble_eq_true rfl) ?_
  have hc := c_X7_noServer (l := l) (X := X) (f := f) (v := v) (u := u) (k := k) (q := q) (nI s)
  rw [hh] at hc
  refine a_aload_n dX7_preference_0 rfl ?_
  refine a_aload_n dX7_preference_1 rfl ?_
  refine a_iload_n dX7_preference_2 rfl ?_
  refine a_ViR is19 k_X7_preference_158 (hc) dX7_preference_3 rfl rfl rfl rfl rfl rfl (Nat.le_of_ble_eq_true rfl) ⟨Nat.le_of_ble_eq_true rfl, Nat.le_of_ble_eq_true rfl⟩ ⟨rfl, rfl⟩ ?_
  refine a_if_ne 25 dX7_preference_6 (by decide) (fun z => absurd (by decide) z) (fun _ => ?_)
  refine a_iload_n dX7_preference_9 rfl ?_
  refine a_i2l dX7_preference_10 ?_
  refine a_lconst 0 dX7_preference_11 (by decide) ?_
  refine a_aload_n dX7_preference_12 rfl ?_
  refine a_get fl_X7_7 dX7_preference_13 rfl rfl ?_
  refine a_iconst 1 dX7_preference_16 (by decide) ?_
  refine a_isub dX7_preference_17 ?_
  refine a_i2l dX7_preference_18 ?_
  refine a_SiR [] k_X7_preference_93 (c_X7_in (nI j).toInt64 0 (nI u.1 - 1).toInt64) dX7_preference_19 rfl rfl rfl rfl rfl (Nat.le_of_ble_eq_true rfl) ⟨Nat.le_of_ble_eq_true rfl, Nat.le_of_ble_eq_true rfl⟩ ⟨rfl, rfl⟩ ?_
  rw [mIn_sl (by omega) (by omega), sSl_j hj hM]
  refine a_if_ne 29 dX7_preference_22 (by decide) (fun _ => ?_) (fun z => absurd z (by decide))
  refine a_iconst 0 dX7_preference_29 (by decide) ?_
  refine a_iconst 0 dX7_preference_30 (by decide) ?_
  refine a_ViW is19 (aMo 0 v u k q) k_X7_preference_124 (c_X7_isRefused (f := f) (v := v) (u := u) (k := k) (q := q) false false) dX7_preference_31 rfl rfl rfl rfl rfl rfl (Nat.le_of_ble_eq_true rfl) ⟨Nat.le_of_ble_eq_true rfl, Nat.le_of_ble_eq_true rfl⟩ ⟨rfl, rfl⟩ (Nat.le_of_ble_eq_true rfl) rfl ?_
  refine a_if_eq 41 dX7_preference_34 (by decide) (fun _ => ?_) (fun z => absurd (by decide) z)
  refine a_aload_n dX7_preference_41 rfl ?_
  refine a_iload_n dX7_preference_42 rfl ?_
  refine a_iload_n dX7_preference_43 rfl ?_
  refine a_ViR is19 k_X7_preference_99 (c_X7_preferred (f := 0) (v := v) (u := u) (k := k) (q := q) (by omega) hM s n j hs hnm hn (by omega)) dX7_preference_44 rfl rfl rfl rfl rfl rfl (Nat.le_of_ble_eq_true rfl) ⟨Nat.le_of_ble_eq_true rfl, Nat.le_of_ble_eq_true rfl⟩ ⟨rfl, rfl⟩ ?_
  refine a_iret rfl dX7_preference_47 (by decide) (by decide) ?_
  exact ⟨rfl, rfl⟩
end MO3
