/-! written by wip/whole/pp.py out of wip/whole/src/31.mod4.lean -/
theorem dX7_pinOf_0 : decode cX7_pinOf 0 = .ok (.iconst 0, 1) := by decide +kernel
theorem dX7_pinOf_1 : decode cX7_pinOf 1 = .ok (.istore_n 2, 1) := by decide +kernel
theorem dX7_pinOf_2 : decode cX7_pinOf 2 = .ok (.iload_n 2, 1) := by decide +kernel
theorem dX7_pinOf_3 : decode cX7_pinOf 3 = .ok (.aload_n 0, 1) := by decide +kernel
theorem dX7_pinOf_4 : decode cX7_pinOf 4 = .ok (.getfield 82, 3) := by decide +kernel
theorem dX7_pinOf_7 : decode cX7_pinOf 7 = .ok (.if_icmp .ge 21, 3) := by decide +kernel
theorem dX7_pinOf_10 : decode cX7_pinOf 10 = .ok (.aload_n 0, 1) := by decide +kernel
theorem dX7_pinOf_11 : decode cX7_pinOf 11 = .ok (.getfield 33, 3) := by decide +kernel
theorem dX7_pinOf_14 : decode cX7_pinOf 14 = .ok (.iload_n 2, 1) := by decide +kernel
theorem dX7_pinOf_15 : decode cX7_pinOf 15 = .ok (.iaload, 1) := by decide +kernel
theorem dX7_pinOf_16 : decode cX7_pinOf 16 = .ok (.iload_n 1, 1) := by decide +kernel
theorem dX7_pinOf_17 : decode cX7_pinOf 17 = .ok (.if_icmp .ne 5, 3) := by decide +kernel
theorem dX7_pinOf_20 : decode cX7_pinOf 20 = .ok (.iload_n 2, 1) := by decide +kernel
theorem dX7_pinOf_21 : decode cX7_pinOf 21 = .ok (.ireturn, 1) := by decide +kernel
theorem dX7_pinOf_22 : decode cX7_pinOf 22 = .ok (.iinc 2 1, 3) := by decide +kernel
theorem dX7_pinOf_25 : decode cX7_pinOf 25 = .ok (.goto (-23), 3) := by decide +kernel
theorem dX7_pinOf_28 : decode cX7_pinOf 28 = .ok (.iconst (-1), 1) := by decide +kernel
theorem dX7_pinOf_29 : decode cX7_pinOf 29 = .ok (.ireturn, 1) := by decide +kernel
theorem dX7_at_0 : decode cX7_at 0 = .ok (.aload_n 0, 1) := by decide +kernel
theorem dX7_at_1 : decode cX7_at 1 = .ok (.iload_n 1, 1) := by decide +kernel
theorem dX7_at_2 : decode cX7_at 2 = .ok (.invokevirtual 161, 3) := by decide +kernel
theorem dX7_at_5 : decode cX7_at 5 = .ok (.istore_n 2, 1) := by decide +kernel
theorem dX7_at_6 : decode cX7_at 6 = .ok (.iload_n 2, 1) := by decide +kernel
theorem dX7_at_7 : decode cX7_at 7 = .ok (.iconst (-1), 1) := by decide +kernel
theorem dX7_at_8 : decode cX7_at 8 = .ok (.if_icmp .eq 25, 3) := by decide +kernel
theorem dX7_at_11 : decode cX7_at 11 = .ok (.aload_n 0, 1) := by decide +kernel
theorem dX7_at_12 : decode cX7_at 12 = .ok (.getfield 13, 3) := by decide +kernel
theorem dX7_at_15 : decode cX7_at 15 = .ok (.aload_n 0, 1) := by decide +kernel
theorem dX7_at_16 : decode cX7_at 16 = .ok (.getfield 36, 3) := by decide +kernel
theorem dX7_at_19 : decode cX7_at 19 = .ok (.iload_n 2, 1) := by decide +kernel
theorem dX7_at_20 : decode cX7_at 20 = .ok (.iaload, 1) := by decide +kernel
theorem dX7_at_21 : decode cX7_at 21 = .ok (.iaload, 1) := by decide +kernel
theorem dX7_at_22 : decode cX7_at 22 = .ok (.iconst 2, 1) := by decide +kernel
theorem dX7_at_23 : decode cX7_at 23 = .ok (.if_icmp .ne 10, 3) := by decide +kernel
theorem dX7_at_26 : decode cX7_at 26 = .ok (.aload_n 0, 1) := by decide +kernel
theorem dX7_at_27 : decode cX7_at 27 = .ok (.getfield 36, 3) := by decide +kernel
theorem dX7_at_30 : decode cX7_at 30 = .ok (.iload_n 2, 1) := by decide +kernel
theorem dX7_at_31 : decode cX7_at 31 = .ok (.iaload, 1) := by decide +kernel
theorem dX7_at_32 : decode cX7_at 32 = .ok (.ireturn, 1) := by decide +kernel
theorem dX7_at_33 : decode cX7_at 33 = .ok (.aload_n 0, 1) := by decide +kernel
theorem dX7_at_34 : decode cX7_at 34 = .ok (.getfield 27, 3) := by decide +kernel
theorem dX7_at_37 : decode cX7_at 37 = .ok (.ldc2_w 164, 3) := by decide +kernel
theorem dX7_at_40 : decode cX7_at 40 = .ok (.iload_n 1, 1) := by decide +kernel
theorem dX7_at_41 : decode cX7_at 41 = .ok (.i2l, 1) := by decide +kernel
theorem dX7_at_42 : decode cX7_at 42 = .ok (.lmul, 1) := by decide +kernel
theorem dX7_at_43 : decode cX7_at 43 = .ok (.ldc2_w 166, 3) := by decide +kernel
theorem dX7_at_46 : decode cX7_at 46 = .ok (.ladd, 1) := by decide +kernel
theorem dX7_at_47 : decode cX7_at 47 = .ok (.ldc2_w 168, 3) := by decide +kernel
theorem dX7_at_50 : decode cX7_at 50 = .ok (.lrem, 1) := by decide +kernel
theorem dX7_at_51 : decode cX7_at 51 = .ok (.l2i, 1) := by decide +kernel
theorem dX7_at_52 : decode cX7_at 52 = .ok (.aload_n 0, 1) := by decide +kernel
theorem dX7_at_53 : decode cX7_at 53 = .ok (.getfield 7, 3) := by decide +kernel
theorem dX7_at_56 : decode cX7_at 56 = .ok (.irem, 1) := by decide +kernel
theorem dX7_at_57 : decode cX7_at 57 = .ok (.iaload, 1) := by decide +kernel
theorem dX7_at_58 : decode cX7_at 58 = .ok (.ireturn, 1) := by decide +kernel
theorem dX7_serverOf_0 : decode cX7_serverOf 0 = .ok (.aload_n 0, 1) := by decide +kernel
theorem dX7_serverOf_1 : decode cX7_serverOf 1 = .ok (.iload_n 1, 1) := by decide +kernel
theorem dX7_serverOf_2 : decode cX7_serverOf 2 = .ok (.invokestatic 170, 3) := by decide +kernel
theorem dX7_serverOf_5 : decode cX7_serverOf 5 = .ok (.iconst 0, 1) := by decide +kernel
theorem dX7_serverOf_6 : decode cX7_serverOf 6 = .ok (.invokevirtual 124, 3) := by decide +kernel
theorem dX7_serverOf_9 : decode cX7_serverOf 9 = .ok (.ifCond .eq 7, 3) := by decide +kernel
theorem dX7_serverOf_12 : decode cX7_serverOf 12 = .ok (.iconst 0, 1) := by decide +kernel
theorem dX7_serverOf_13 : decode cX7_serverOf 13 = .ok (.goto 8, 3) := by decide +kernel
theorem dX7_serverOf_16 : decode cX7_serverOf 16 = .ok (.aload_n 0, 1) := by decide +kernel
theorem dX7_serverOf_17 : decode cX7_serverOf 17 = .ok (.iload_n 1, 1) := by decide +kernel
theorem dX7_serverOf_18 : decode cX7_serverOf 18 = .ok (.invokevirtual 173, 3) := by decide +kernel
theorem dX7_serverOf_21 : decode cX7_serverOf 21 = .ok (.ireturn, 1) := by decide +kernel
theorem dX7_ranked_0 : decode cX7_ranked 0 = .ok (.iconst 0, 1) := by decide +kernel
theorem dX7_ranked_1 : decode cX7_ranked 1 = .ok (.istore_n 2, 1) := by decide +kernel
theorem dX7_ranked_2 : decode cX7_ranked 2 = .ok (.iload_n 2, 1) := by decide +kernel
theorem dX7_ranked_3 : decode cX7_ranked 3 = .ok (.bipush 10, 2) := by decide +kernel
theorem dX7_ranked_5 : decode cX7_ranked 5 = .ok (.if_icmp .ge 119, 3) := by decide +kernel
theorem dX7_ranked_8 : decode cX7_ranked 8 = .ok (.iconst 0, 1) := by decide +kernel
theorem dX7_ranked_9 : decode cX7_ranked 9 = .ok (.istore_n 3, 1) := by decide +kernel
theorem dX7_ranked_10 : decode cX7_ranked 10 = .ok (.iconst 0, 1) := by decide +kernel
theorem dX7_ranked_11 : decode cX7_ranked 11 = .ok (.istore 4, 2) := by decide +kernel
theorem dX7_ranked_13 : decode cX7_ranked 13 = .ok (.iload 4, 2) := by decide +kernel
theorem dX7_ranked_15 : decode cX7_ranked 15 = .ok (.bipush 10, 2) := by decide +kernel
theorem dX7_ranked_17 : decode cX7_ranked 17 = .ok (.if_icmp .ge 84, 3) := by decide +kernel
theorem dX7_ranked_20 : decode cX7_ranked 20 = .ok (.aload_n 0, 1) := by decide +kernel
theorem dX7_ranked_21 : decode cX7_ranked 21 = .ok (.getfield 23, 3) := by decide +kernel
theorem dX7_ranked_24 : decode cX7_ranked 24 = .ok (.iload_n 2, 1) := by decide +kernel
theorem dX7_ranked_25 : decode cX7_ranked 25 = .ok (.laload, 1) := by decide +kernel
theorem dX7_ranked_26 : decode cX7_ranked 26 = .ok (.aload_n 0, 1) := by decide +kernel
theorem dX7_ranked_27 : decode cX7_ranked 27 = .ok (.getfield 20, 3) := by decide +kernel
theorem dX7_ranked_30 : decode cX7_ranked 30 = .ok (.iload 4, 2) := by decide +kernel
theorem dX7_ranked_32 : decode cX7_ranked 32 = .ok (.iaload, 1) := by decide +kernel
theorem dX7_ranked_33 : decode cX7_ranked 33 = .ok (.i2l, 1) := by decide +kernel
theorem dX7_ranked_34 : decode cX7_ranked 34 = .ok (.lmul, 1) := by decide +kernel
theorem dX7_ranked_35 : decode cX7_ranked 35 = .ok (.lstore 5, 2) := by decide +kernel
theorem dX7_ranked_37 : decode cX7_ranked 37 = .ok (.aload_n 0, 1) := by decide +kernel
theorem dX7_ranked_38 : decode cX7_ranked 38 = .ok (.getfield 23, 3) := by decide +kernel
theorem dX7_ranked_41 : decode cX7_ranked 41 = .ok (.iload 4, 2) := by decide +kernel
theorem dX7_ranked_43 : decode cX7_ranked 43 = .ok (.laload, 1) := by decide +kernel
theorem dX7_ranked_44 : decode cX7_ranked 44 = .ok (.aload_n 0, 1) := by decide +kernel
theorem dX7_ranked_45 : decode cX7_ranked 45 = .ok (.getfield 20, 3) := by decide +kernel
theorem dX7_ranked_48 : decode cX7_ranked 48 = .ok (.iload_n 2, 1) := by decide +kernel
theorem dX7_ranked_49 : decode cX7_ranked 49 = .ok (.iaload, 1) := by decide +kernel
theorem dX7_ranked_50 : decode cX7_ranked 50 = .ok (.i2l, 1) := by decide +kernel
theorem dX7_ranked_51 : decode cX7_ranked 51 = .ok (.lmul, 1) := by decide +kernel
theorem dX7_ranked_52 : decode cX7_ranked 52 = .ok (.lstore 7, 2) := by decide +kernel
theorem dX7_ranked_54 : decode cX7_ranked 54 = .ok (.iload_n 3, 1) := by decide +kernel
theorem dX7_ranked_55 : decode cX7_ranked 55 = .ok (.aload_n 0, 1) := by decide +kernel
theorem dX7_ranked_56 : decode cX7_ranked 56 = .ok (.getfield 13, 3) := by decide +kernel
theorem dX7_ranked_59 : decode cX7_ranked 59 = .ok (.iload 4, 2) := by decide +kernel
theorem dX7_ranked_61 : decode cX7_ranked 61 = .ok (.iaload, 1) := by decide +kernel
theorem dX7_ranked_62 : decode cX7_ranked 62 = .ok (.iconst 2, 1) := by decide +kernel
theorem dX7_ranked_63 : decode cX7_ranked 63 = .ok (.if_icmp .ne 29, 3) := by decide +kernel
theorem dX7_ranked_66 : decode cX7_ranked 66 = .ok (.lload 7, 2) := by decide +kernel
theorem dX7_ranked_68 : decode cX7_ranked 68 = .ok (.lload 5, 2) := by decide +kernel
theorem dX7_ranked_70 : decode cX7_ranked 70 = .ok (.lcmp, 1) := by decide +kernel
theorem dX7_ranked_71 : decode cX7_ranked 71 = .ok (.ifCond .gt 17, 3) := by decide +kernel
theorem dX7_ranked_74 : decode cX7_ranked 74 = .ok (.lload 7, 2) := by decide +kernel
theorem dX7_ranked_76 : decode cX7_ranked 76 = .ok (.lload 5, 2) := by decide +kernel
theorem dX7_ranked_78 : decode cX7_ranked 78 = .ok (.lcmp, 1) := by decide +kernel
theorem dX7_ranked_79 : decode cX7_ranked 79 = .ok (.ifCond .ne 13, 3) := by decide +kernel
theorem dX7_ranked_82 : decode cX7_ranked 82 = .ok (.iload 4, 2) := by decide +kernel
theorem dX7_ranked_84 : decode cX7_ranked 84 = .ok (.iload_n 2, 1) := by decide +kernel
theorem dX7_ranked_85 : decode cX7_ranked 85 = .ok (.if_icmp .ge 7, 3) := by decide +kernel
theorem dX7_ranked_88 : decode cX7_ranked 88 = .ok (.iconst 1, 1) := by decide +kernel
theorem dX7_ranked_89 : decode cX7_ranked 89 = .ok (.goto 4, 3) := by decide +kernel
theorem dX7_ranked_92 : decode cX7_ranked 92 = .ok (.iconst 0, 1) := by decide +kernel
theorem dX7_ranked_93 : decode cX7_ranked 93 = .ok (.iadd, 1) := by decide +kernel
theorem dX7_ranked_94 : decode cX7_ranked 94 = .ok (.istore_n 3, 1) := by decide +kernel
theorem dX7_ranked_95 : decode cX7_ranked 95 = .ok (.iinc 4 1, 3) := by decide +kernel
theorem dX7_ranked_98 : decode cX7_ranked 98 = .ok (.goto (-85), 3) := by decide +kernel
theorem dX7_ranked_101 : decode cX7_ranked 101 = .ok (.aload_n 0, 1) := by decide +kernel
theorem dX7_ranked_102 : decode cX7_ranked 102 = .ok (.getfield 13, 3) := by decide +kernel
theorem dX7_ranked_105 : decode cX7_ranked 105 = .ok (.iload_n 2, 1) := by decide +kernel
theorem dX7_ranked_106 : decode cX7_ranked 106 = .ok (.iaload, 1) := by decide +kernel
theorem dX7_ranked_107 : decode cX7_ranked 107 = .ok (.iconst 2, 1) := by decide +kernel
theorem dX7_ranked_108 : decode cX7_ranked 108 = .ok (.if_icmp .ne 10, 3) := by decide +kernel
theorem dX7_ranked_111 : decode cX7_ranked 111 = .ok (.iload_n 3, 1) := by decide +kernel
theorem dX7_ranked_112 : decode cX7_ranked 112 = .ok (.iload_n 1, 1) := by decide +kernel
theorem dX7_ranked_113 : decode cX7_ranked 113 = .ok (.if_icmp .ne 5, 3) := by decide +kernel
theorem dX7_ranked_116 : decode cX7_ranked 116 = .ok (.iload_n 2, 1) := by decide +kernel
theorem dX7_ranked_117 : decode cX7_ranked 117 = .ok (.ireturn, 1) := by decide +kernel
theorem dX7_ranked_118 : decode cX7_ranked 118 = .ok (.iinc 2 1, 3) := by decide +kernel
theorem dX7_ranked_121 : decode cX7_ranked 121 = .ok (.goto (-119), 3) := by decide +kernel
theorem dX7_ranked_124 : decode cX7_ranked 124 = .ok (.iconst (-1), 1) := by decide +kernel
theorem dX7_ranked_125 : decode cX7_ranked 125 = .ok (.ireturn, 1) := by decide +kernel
theorem dX7_rankedServer_0 : decode cX7_rankedServer 0 = .ok (.aload_n 0, 1) := by decide +kernel
theorem dX7_rankedServer_1 : decode cX7_rankedServer 1 = .ok (.iload_n 1, 1) := by decide +kernel
theorem dX7_rankedServer_2 : decode cX7_rankedServer 2 = .ok (.i2l, 1) := by decide +kernel
theorem dX7_rankedServer_3 : decode cX7_rankedServer 3 = .ok (.lconst 0, 1) := by decide +kernel
theorem dX7_rankedServer_4 : decode cX7_rankedServer 4 = .ok (.aload_n 0, 1) := by decide +kernel
theorem dX7_rankedServer_5 : decode cX7_rankedServer 5 = .ok (.invokevirtual 182, 3) := by decide +kernel
theorem dX7_rankedServer_8 : decode cX7_rankedServer 8 = .ok (.iconst 1, 1) := by decide +kernel
theorem dX7_rankedServer_9 : decode cX7_rankedServer 9 = .ok (.isub, 1) := by decide +kernel
theorem dX7_rankedServer_10 : decode cX7_rankedServer 10 = .ok (.i2l, 1) := by decide +kernel
theorem dX7_rankedServer_11 : decode cX7_rankedServer 11 = .ok (.invokestatic 93, 3) := by decide +kernel
theorem dX7_rankedServer_14 : decode cX7_rankedServer 14 = .ok (.ifCond .ne 7, 3) := by decide +kernel
theorem dX7_rankedServer_17 : decode cX7_rankedServer 17 = .ok (.iconst 1, 1) := by decide +kernel
theorem dX7_rankedServer_18 : decode cX7_rankedServer 18 = .ok (.goto 4, 3) := by decide +kernel
theorem dX7_rankedServer_21 : decode cX7_rankedServer 21 = .ok (.iconst 0, 1) := by decide +kernel
theorem dX7_rankedServer_22 : decode cX7_rankedServer 22 = .ok (.iconst 0, 1) := by decide +kernel
theorem dX7_rankedServer_23 : decode cX7_rankedServer 23 = .ok (.invokevirtual 124, 3) := by decide +kernel
theorem dX7_rankedServer_26 : decode cX7_rankedServer 26 = .ok (.ifCond .eq 7, 3) := by decide +kernel
theorem dX7_rankedServer_29 : decode cX7_rankedServer 29 = .ok (.iconst 0, 1) := by decide +kernel
theorem dX7_rankedServer_30 : decode cX7_rankedServer 30 = .ok (.goto 8, 3) := by decide +kernel
theorem dX7_rankedServer_33 : decode cX7_rankedServer 33 = .ok (.aload_n 0, 1) := by decide +kernel
theorem dX7_rankedServer_34 : decode cX7_rankedServer 34 = .ok (.iload_n 1, 1) := by decide +kernel
theorem dX7_rankedServer_35 : decode cX7_rankedServer 35 = .ok (.invokevirtual 185, 3) := by decide +kernel
theorem dX7_rankedServer_38 : decode cX7_rankedServer 38 = .ok (.ireturn, 1) := by decide +kernel
theorem dX7_pinsTo_0 : decode cX7_pinsTo 0 = .ok (.aload_n 0, 1) := by decide +kernel
theorem dX7_pinsTo_1 : decode cX7_pinsTo 1 = .ok (.iload_n 1, 1) := by decide +kernel
theorem dX7_pinsTo_2 : decode cX7_pinsTo 2 = .ok (.invokevirtual 161, 3) := by decide +kernel
theorem dX7_pinsTo_5 : decode cX7_pinsTo 5 = .ok (.istore_n 3, 1) := by decide +kernel
theorem dX7_pinsTo_6 : decode cX7_pinsTo 6 = .ok (.iload_n 3, 1) := by decide +kernel
theorem dX7_pinsTo_7 : decode cX7_pinsTo 7 = .ok (.iconst (-1), 1) := by decide +kernel
theorem dX7_pinsTo_8 : decode cX7_pinsTo 8 = .ok (.if_icmp .ne 18, 3) := by decide +kernel
theorem dX7_pinsTo_11 : decode cX7_pinsTo 11 = .ok (.aload_n 0, 1) := by decide +kernel
theorem dX7_pinsTo_12 : decode cX7_pinsTo 12 = .ok (.getfield 82, 3) := by decide +kernel
theorem dX7_pinsTo_15 : decode cX7_pinsTo 15 = .ok (.istore_n 3, 1) := by decide +kernel
theorem dX7_pinsTo_16 : decode cX7_pinsTo 16 = .ok (.aload_n 0, 1) := by decide +kernel
theorem dX7_pinsTo_17 : decode cX7_pinsTo 17 = .ok (.dup, 1) := by decide +kernel
theorem dX7_pinsTo_18 : decode cX7_pinsTo 18 = .ok (.getfield 82, 3) := by decide +kernel
theorem dX7_pinsTo_21 : decode cX7_pinsTo 21 = .ok (.iconst 1, 1) := by decide +kernel
theorem dX7_pinsTo_22 : decode cX7_pinsTo 22 = .ok (.iadd, 1) := by decide +kernel
theorem dX7_pinsTo_23 : decode cX7_pinsTo 23 = .ok (.putfield 82, 3) := by decide +kernel
theorem dX7_pinsTo_26 : decode cX7_pinsTo 26 = .ok (.aload_n 0, 1) := by decide +kernel
theorem dX7_pinsTo_27 : decode cX7_pinsTo 27 = .ok (.getfield 33, 3) := by decide +kernel
theorem dX7_pinsTo_30 : decode cX7_pinsTo 30 = .ok (.iload_n 3, 1) := by decide +kernel
theorem dX7_pinsTo_31 : decode cX7_pinsTo 31 = .ok (.iload_n 1, 1) := by decide +kernel
theorem dX7_pinsTo_32 : decode cX7_pinsTo 32 = .ok (.iastore, 1) := by decide +kernel
theorem dX7_pinsTo_33 : decode cX7_pinsTo 33 = .ok (.aload_n 0, 1) := by decide +kernel
theorem dX7_pinsTo_34 : decode cX7_pinsTo 34 = .ok (.getfield 36, 3) := by decide +kernel
theorem dX7_pinsTo_37 : decode cX7_pinsTo 37 = .ok (.iload_n 3, 1) := by decide +kernel
theorem dX7_pinsTo_38 : decode cX7_pinsTo 38 = .ok (.iload_n 2, 1) := by decide +kernel
theorem dX7_pinsTo_39 : decode cX7_pinsTo 39 = .ok (.iastore, 1) := by decide +kernel
theorem dX7_pinsTo_40 : decode cX7_pinsTo 40 = .ok (.aload_n 0, 1) := by decide +kernel
theorem dX7_pinsTo_41 : decode cX7_pinsTo 41 = .ok (.getfield 82, 3) := by decide +kernel
theorem dX7_pinsTo_44 : decode cX7_pinsTo 44 = .ok (.ireturn, 1) := by decide +kernel
theorem dX7_noRoom_0 : decode cX7_noRoom 0 = .ok (.aload_n 0, 1) := by decide +kernel
theorem dX7_noRoom_1 : decode cX7_noRoom 1 = .ok (.getfield 82, 3) := by decide +kernel
theorem dX7_noRoom_4 : decode cX7_noRoom 4 = .ok (.bipush 6, 2) := by decide +kernel
theorem dX7_noRoom_6 : decode cX7_noRoom 6 = .ok (.if_icmp .ne 16, 3) := by decide +kernel
theorem dX7_noRoom_9 : decode cX7_noRoom 9 = .ok (.aload_n 0, 1) := by decide +kernel
theorem dX7_noRoom_10 : decode cX7_noRoom 10 = .ok (.iload_n 1, 1) := by decide +kernel
theorem dX7_noRoom_11 : decode cX7_noRoom 11 = .ok (.invokevirtual 161, 3) := by decide +kernel
theorem dX7_noRoom_14 : decode cX7_noRoom 14 = .ok (.iconst (-1), 1) := by decide +kernel
theorem dX7_noRoom_15 : decode cX7_noRoom 15 = .ok (.if_icmp .ne 7, 3) := by decide +kernel
theorem dX7_noRoom_18 : decode cX7_noRoom 18 = .ok (.iconst 1, 1) := by decide +kernel
theorem dX7_noRoom_19 : decode cX7_noRoom 19 = .ok (.goto 4, 3) := by decide +kernel
theorem dX7_noRoom_22 : decode cX7_noRoom 22 = .ok (.iconst 0, 1) := by decide +kernel
theorem dX7_noRoom_23 : decode cX7_noRoom 23 = .ok (.ireturn, 1) := by decide +kernel
theorem dX7_pin_0 : decode cX7_pin 0 = .ok (.aload_n 0, 1) := by decide +kernel
theorem dX7_pin_1 : decode cX7_pin 1 = .ok (.iload_n 1, 1) := by decide +kernel
theorem dX7_pin_2 : decode cX7_pin 2 = .ok (.invokestatic 170, 3) := by decide +kernel
theorem dX7_pin_5 : decode cX7_pin 5 = .ok (.ifCond .ne 11, 3) := by decide +kernel
theorem dX7_pin_8 : decode cX7_pin 8 = .ok (.aload_n 0, 1) := by decide +kernel
theorem dX7_pin_9 : decode cX7_pin 9 = .ok (.iload_n 2, 1) := by decide +kernel
theorem dX7_pin_10 : decode cX7_pin 10 = .ok (.invokevirtual 158, 3) := by decide +kernel
theorem dX7_pin_13 : decode cX7_pin 13 = .ok (.ifCond .eq 7, 3) := by decide +kernel
theorem dX7_pin_16 : decode cX7_pin 16 = .ok (.iconst 1, 1) := by decide +kernel
theorem dX7_pin_17 : decode cX7_pin 17 = .ok (.goto 4, 3) := by decide +kernel
theorem dX7_pin_20 : decode cX7_pin 20 = .ok (.iconst 0, 1) := by decide +kernel
theorem dX7_pin_21 : decode cX7_pin 21 = .ok (.aload_n 0, 1) := by decide +kernel
theorem dX7_pin_22 : decode cX7_pin 22 = .ok (.iload_n 1, 1) := by decide +kernel
theorem dX7_pin_23 : decode cX7_pin 23 = .ok (.invokevirtual 188, 3) := by decide +kernel
theorem dX7_pin_26 : decode cX7_pin 26 = .ok (.invokevirtual 124, 3) := by decide +kernel
theorem dX7_pin_29 : decode cX7_pin 29 = .ok (.ifCond .eq 7, 3) := by decide +kernel
theorem dX7_pin_32 : decode cX7_pin 32 = .ok (.iconst 0, 1) := by decide +kernel
theorem dX7_pin_33 : decode cX7_pin 33 = .ok (.goto 9, 3) := by decide +kernel
theorem dX7_pin_36 : decode cX7_pin 36 = .ok (.aload_n 0, 1) := by decide +kernel
theorem dX7_pin_37 : decode cX7_pin 37 = .ok (.iload_n 1, 1) := by decide +kernel
theorem dX7_pin_38 : decode cX7_pin 38 = .ok (.iload_n 2, 1) := by decide +kernel
theorem dX7_pin_39 : decode cX7_pin 39 = .ok (.invokevirtual 191, 3) := by decide +kernel
theorem dX7_pin_42 : decode cX7_pin 42 = .ok (.ireturn, 1) := by decide +kernel
theorem dX7_unpin_0 : decode cX7_unpin 0 = .ok (.aload_n 0, 1) := by decide +kernel
theorem dX7_unpin_1 : decode cX7_unpin 1 = .ok (.iload_n 1, 1) := by decide +kernel
theorem dX7_unpin_2 : decode cX7_unpin 2 = .ok (.invokestatic 170, 3) := by decide +kernel
theorem dX7_unpin_5 : decode cX7_unpin 5 = .ok (.iconst 0, 1) := by decide +kernel
theorem dX7_unpin_6 : decode cX7_unpin 6 = .ok (.invokevirtual 124, 3) := by decide +kernel
theorem dX7_unpin_9 : decode cX7_unpin 9 = .ok (.ifCond .eq 5, 3) := by decide +kernel
theorem dX7_unpin_12 : decode cX7_unpin 12 = .ok (.iconst 0, 1) := by decide +kernel
theorem dX7_unpin_13 : decode cX7_unpin 13 = .ok (.ireturn, 1) := by decide +kernel
theorem dX7_unpin_14 : decode cX7_unpin 14 = .ok (.aload_n 0, 1) := by decide +kernel
theorem dX7_unpin_15 : decode cX7_unpin 15 = .ok (.iload_n 1, 1) := by decide +kernel
theorem dX7_unpin_16 : decode cX7_unpin 16 = .ok (.invokevirtual 161, 3) := by decide +kernel
theorem dX7_unpin_19 : decode cX7_unpin 19 = .ok (.istore_n 2, 1) := by decide +kernel
theorem dX7_unpin_20 : decode cX7_unpin 20 = .ok (.iload_n 2, 1) := by decide +kernel
theorem dX7_unpin_21 : decode cX7_unpin 21 = .ok (.iconst (-1), 1) := by decide +kernel
theorem dX7_unpin_22 : decode cX7_unpin 22 = .ok (.if_icmp .ne 5, 3) := by decide +kernel
theorem dX7_unpin_25 : decode cX7_unpin 25 = .ok (.iconst (-1), 1) := by decide +kernel
theorem dX7_unpin_26 : decode cX7_unpin 26 = .ok (.ireturn, 1) := by decide +kernel
theorem dX7_unpin_27 : decode cX7_unpin 27 = .ok (.aload_n 0, 1) := by decide +kernel
theorem dX7_unpin_28 : decode cX7_unpin 28 = .ok (.getfield 36, 3) := by decide +kernel
theorem dX7_unpin_31 : decode cX7_unpin 31 = .ok (.iload_n 2, 1) := by decide +kernel
theorem dX7_unpin_32 : decode cX7_unpin 32 = .ok (.iaload, 1) := by decide +kernel
theorem dX7_unpin_33 : decode cX7_unpin 33 = .ok (.istore_n 3, 1) := by decide +kernel
theorem dX7_unpin_34 : decode cX7_unpin 34 = .ok (.aload_n 0, 1) := by decide +kernel
theorem dX7_unpin_35 : decode cX7_unpin 35 = .ok (.dup, 1) := by decide +kernel
theorem dX7_unpin_36 : decode cX7_unpin 36 = .ok (.getfield 82, 3) := by decide +kernel
theorem dX7_unpin_39 : decode cX7_unpin 39 = .ok (.iconst 1, 1) := by decide +kernel
theorem dX7_unpin_40 : decode cX7_unpin 40 = .ok (.isub, 1) := by decide +kernel
theorem dX7_unpin_41 : decode cX7_unpin 41 = .ok (.putfield 82, 3) := by decide +kernel
theorem dX7_unpin_44 : decode cX7_unpin 44 = .ok (.aload_n 0, 1) := by decide +kernel
theorem dX7_unpin_45 : decode cX7_unpin 45 = .ok (.getfield 33, 3) := by decide +kernel
theorem dX7_unpin_48 : decode cX7_unpin 48 = .ok (.iload_n 2, 1) := by decide +kernel
theorem dX7_unpin_49 : decode cX7_unpin 49 = .ok (.aload_n 0, 1) := by decide +kernel
theorem dX7_unpin_50 : decode cX7_unpin 50 = .ok (.getfield 33, 3) := by decide +kernel
theorem dX7_unpin_53 : decode cX7_unpin 53 = .ok (.aload_n 0, 1) := by decide +kernel
theorem dX7_unpin_54 : decode cX7_unpin 54 = .ok (.getfield 82, 3) := by decide +kernel
theorem dX7_unpin_57 : decode cX7_unpin 57 = .ok (.iaload, 1) := by decide +kernel
theorem dX7_unpin_58 : decode cX7_unpin 58 = .ok (.iastore, 1) := by decide +kernel
theorem dX7_unpin_59 : decode cX7_unpin 59 = .ok (.aload_n 0, 1) := by decide +kernel
theorem dX7_unpin_60 : decode cX7_unpin 60 = .ok (.getfield 36, 3) := by decide +kernel
theorem dX7_unpin_63 : decode cX7_unpin 63 = .ok (.iload_n 2, 1) := by decide +kernel
theorem dX7_unpin_64 : decode cX7_unpin 64 = .ok (.aload_n 0, 1) := by decide +kernel
theorem dX7_unpin_65 : decode cX7_unpin 65 = .ok (.getfield 36, 3) := by decide +kernel
theorem dX7_unpin_68 : decode cX7_unpin 68 = .ok (.aload_n 0, 1) := by decide +kernel
theorem dX7_unpin_69 : decode cX7_unpin 69 = .ok (.getfield 82, 3) := by decide +kernel
theorem dX7_unpin_72 : decode cX7_unpin 72 = .ok (.iaload, 1) := by decide +kernel
theorem dX7_unpin_73 : decode cX7_unpin 73 = .ok (.iastore, 1) := by decide +kernel
theorem dX7_unpin_74 : decode cX7_unpin 74 = .ok (.iload_n 3, 1) := by decide +kernel
theorem dX7_unpin_75 : decode cX7_unpin 75 = .ok (.ireturn, 1) := by decide +kernel
theorem dX7_listed_0 : decode cX7_listed 0 = .ok (.iconst 0, 1) := by decide +kernel
theorem dX7_listed_1 : decode cX7_listed 1 = .ok (.istore_n 2, 1) := by decide +kernel
theorem dX7_listed_2 : decode cX7_listed 2 = .ok (.iload_n 2, 1) := by decide +kernel
theorem dX7_listed_3 : decode cX7_listed 3 = .ok (.aload_n 0, 1) := by decide +kernel
theorem dX7_listed_4 : decode cX7_listed 4 = .ok (.getfield 85, 3) := by decide +kernel
theorem dX7_listed_7 : decode cX7_listed 7 = .ok (.if_icmp .ge 94, 3) := by decide +kernel
theorem dX7_listed_10 : decode cX7_listed 10 = .ok (.iconst 0, 1) := by decide +kernel
theorem dX7_listed_11 : decode cX7_listed 11 = .ok (.istore_n 3, 1) := by decide +kernel
theorem dX7_listed_12 : decode cX7_listed 12 = .ok (.iconst 0, 1) := by decide +kernel
theorem dX7_listed_13 : decode cX7_listed 13 = .ok (.istore 4, 2) := by decide +kernel
theorem dX7_listed_15 : decode cX7_listed 15 = .ok (.iload 4, 2) := by decide +kernel
theorem dX7_listed_17 : decode cX7_listed 17 = .ok (.aload_n 0, 1) := by decide +kernel
theorem dX7_listed_18 : decode cX7_listed 18 = .ok (.getfield 85, 3) := by decide +kernel
theorem dX7_listed_21 : decode cX7_listed 21 = .ok (.if_icmp .ge 67, 3) := by decide +kernel
theorem dX7_listed_24 : decode cX7_listed 24 = .ok (.iload_n 3, 1) := by decide +kernel
theorem dX7_listed_25 : decode cX7_listed 25 = .ok (.aload_n 0, 1) := by decide +kernel
theorem dX7_listed_26 : decode cX7_listed 26 = .ok (.getfield 42, 3) := by decide +kernel
theorem dX7_listed_29 : decode cX7_listed 29 = .ok (.iload 4, 2) := by decide +kernel
theorem dX7_listed_31 : decode cX7_listed 31 = .ok (.laload, 1) := by decide +kernel
theorem dX7_listed_32 : decode cX7_listed 32 = .ok (.aload_n 0, 1) := by decide +kernel
theorem dX7_listed_33 : decode cX7_listed 33 = .ok (.getfield 42, 3) := by decide +kernel
theorem dX7_listed_36 : decode cX7_listed 36 = .ok (.iload_n 2, 1) := by decide +kernel
theorem dX7_listed_37 : decode cX7_listed 37 = .ok (.laload, 1) := by decide +kernel
theorem dX7_listed_38 : decode cX7_listed 38 = .ok (.lcmp, 1) := by decide +kernel
theorem dX7_listed_39 : decode cX7_listed 39 = .ok (.ifCond .gt 36, 3) := by decide +kernel
theorem dX7_listed_42 : decode cX7_listed 42 = .ok (.aload_n 0, 1) := by decide +kernel
theorem dX7_listed_43 : decode cX7_listed 43 = .ok (.getfield 42, 3) := by decide +kernel
theorem dX7_listed_46 : decode cX7_listed 46 = .ok (.iload 4, 2) := by decide +kernel
theorem dX7_listed_48 : decode cX7_listed 48 = .ok (.laload, 1) := by decide +kernel
theorem dX7_listed_49 : decode cX7_listed 49 = .ok (.aload_n 0, 1) := by decide +kernel
theorem dX7_listed_50 : decode cX7_listed 50 = .ok (.getfield 42, 3) := by decide +kernel
theorem dX7_listed_53 : decode cX7_listed 53 = .ok (.iload_n 2, 1) := by decide +kernel
theorem dX7_listed_54 : decode cX7_listed 54 = .ok (.laload, 1) := by decide +kernel
theorem dX7_listed_55 : decode cX7_listed 55 = .ok (.lcmp, 1) := by decide +kernel
theorem dX7_listed_56 : decode cX7_listed 56 = .ok (.ifCond .ne 23, 3) := by decide +kernel
theorem dX7_listed_59 : decode cX7_listed 59 = .ok (.aload_n 0, 1) := by decide +kernel
theorem dX7_listed_60 : decode cX7_listed 60 = .ok (.getfield 39, 3) := by decide +kernel
theorem dX7_listed_63 : decode cX7_listed 63 = .ok (.iload 4, 2) := by decide +kernel
theorem dX7_listed_65 : decode cX7_listed 65 = .ok (.iaload, 1) := by decide +kernel
theorem dX7_listed_66 : decode cX7_listed 66 = .ok (.aload_n 0, 1) := by decide +kernel
theorem dX7_listed_67 : decode cX7_listed 67 = .ok (.getfield 39, 3) := by decide +kernel
theorem dX7_listed_70 : decode cX7_listed 70 = .ok (.iload_n 2, 1) := by decide +kernel
theorem dX7_listed_71 : decode cX7_listed 71 = .ok (.iaload, 1) := by decide +kernel
theorem dX7_listed_72 : decode cX7_listed 72 = .ok (.if_icmp .ge 7, 3) := by decide +kernel
theorem dX7_listed_75 : decode cX7_listed 75 = .ok (.iconst 1, 1) := by decide +kernel
theorem dX7_listed_76 : decode cX7_listed 76 = .ok (.goto 4, 3) := by decide +kernel
theorem dX7_listed_79 : decode cX7_listed 79 = .ok (.iconst 0, 1) := by decide +kernel
theorem dX7_listed_80 : decode cX7_listed 80 = .ok (.iadd, 1) := by decide +kernel
theorem dX7_listed_81 : decode cX7_listed 81 = .ok (.istore_n 3, 1) := by decide +kernel
theorem dX7_listed_82 : decode cX7_listed 82 = .ok (.iinc 4 1, 3) := by decide +kernel
theorem dX7_listed_85 : decode cX7_listed 85 = .ok (.goto (-70), 3) := by decide +kernel
theorem dX7_listed_88 : decode cX7_listed 88 = .ok (.iload_n 3, 1) := by decide +kernel
theorem dX7_listed_89 : decode cX7_listed 89 = .ok (.iload_n 1, 1) := by decide +kernel
theorem dX7_listed_90 : decode cX7_listed 90 = .ok (.if_icmp .ne 5, 3) := by decide +kernel
theorem dX7_listed_93 : decode cX7_listed 93 = .ok (.iload_n 2, 1) := by decide +kernel
theorem dX7_listed_94 : decode cX7_listed 94 = .ok (.ireturn, 1) := by decide +kernel
theorem dX7_listed_95 : decode cX7_listed 95 = .ok (.iinc 2 1, 3) := by decide +kernel
theorem dX7_listed_98 : decode cX7_listed 98 = .ok (.goto (-96), 3) := by decide +kernel
theorem dX7_listed_101 : decode cX7_listed 101 = .ok (.iconst (-1), 1) := by decide +kernel
theorem dX7_listed_102 : decode cX7_listed 102 = .ok (.ireturn, 1) := by decide +kernel
theorem dX7_pinHottest_0 : decode cX7_pinHottest 0 = .ok (.aload_n 0, 1) := by decide +kernel
theorem dX7_pinHottest_1 : decode cX7_pinHottest 1 = .ok (.getfield 85, 3) := by decide +kernel
theorem dX7_pinHottest_4 : decode cX7_pinHottest 4 = .ok (.ifCond .eq 10, 3) := by decide +kernel
theorem dX7_pinHottest_7 : decode cX7_pinHottest 7 = .ok (.aload_n 0, 1) := by decide +kernel
theorem dX7_pinHottest_8 : decode cX7_pinHottest 8 = .ok (.invokevirtual 182, 3) := by decide +kernel
theorem dX7_pinHottest_11 : decode cX7_pinHottest 11 = .ok (.ifCond .ne 7, 3) := by decide +kernel
theorem dX7_pinHottest_14 : decode cX7_pinHottest 14 = .ok (.iconst 1, 1) := by decide +kernel
theorem dX7_pinHottest_15 : decode cX7_pinHottest 15 = .ok (.goto 4, 3) := by decide +kernel
theorem dX7_pinHottest_18 : decode cX7_pinHottest 18 = .ok (.iconst 0, 1) := by decide +kernel
theorem dX7_pinHottest_19 : decode cX7_pinHottest 19 = .ok (.istore_n 1, 1) := by decide +kernel
theorem dX7_pinHottest_20 : decode cX7_pinHottest 20 = .ok (.aload_n 0, 1) := by decide +kernel
theorem dX7_pinHottest_21 : decode cX7_pinHottest 21 = .ok (.iload_n 1, 1) := by decide +kernel
theorem dX7_pinHottest_22 : decode cX7_pinHottest 22 = .ok (.ifCond .ne 20, 3) := by decide +kernel
theorem dX7_pinHottest_25 : decode cX7_pinHottest 25 = .ok (.aload_n 0, 1) := by decide +kernel
theorem dX7_pinHottest_26 : decode cX7_pinHottest 26 = .ok (.aload_n 0, 1) := by decide +kernel
theorem dX7_pinHottest_27 : decode cX7_pinHottest 27 = .ok (.getfield 39, 3) := by decide +kernel
theorem dX7_pinHottest_30 : decode cX7_pinHottest 30 = .ok (.aload_n 0, 1) := by decide +kernel
theorem dX7_pinHottest_31 : decode cX7_pinHottest 31 = .ok (.iconst 0, 1) := by decide +kernel
theorem dX7_pinHottest_32 : decode cX7_pinHottest 32 = .ok (.invokevirtual 194, 3) := by decide +kernel
theorem dX7_pinHottest_35 : decode cX7_pinHottest 35 = .ok (.iaload, 1) := by decide +kernel
theorem dX7_pinHottest_36 : decode cX7_pinHottest 36 = .ok (.invokevirtual 188, 3) := by decide +kernel
theorem dX7_pinHottest_39 : decode cX7_pinHottest 39 = .ok (.ifCond .eq 7, 3) := by decide +kernel
theorem dX7_pinHottest_42 : decode cX7_pinHottest 42 = .ok (.iconst 1, 1) := by decide +kernel
theorem dX7_pinHottest_43 : decode cX7_pinHottest 43 = .ok (.goto 4, 3) := by decide +kernel
theorem dX7_pinHottest_46 : decode cX7_pinHottest 46 = .ok (.iconst 0, 1) := by decide +kernel
theorem dX7_pinHottest_47 : decode cX7_pinHottest 47 = .ok (.iconst 0, 1) := by decide +kernel
theorem dX7_pinHottest_48 : decode cX7_pinHottest 48 = .ok (.invokevirtual 124, 3) := by decide +kernel
theorem dX7_pinHottest_51 : decode cX7_pinHottest 51 = .ok (.ifCond .eq 5, 3) := by decide +kernel
theorem dX7_pinHottest_54 : decode cX7_pinHottest 54 = .ok (.iconst 0, 1) := by decide +kernel
theorem dX7_pinHottest_55 : decode cX7_pinHottest 55 = .ok (.ireturn, 1) := by decide +kernel
theorem dX7_pinHottest_56 : decode cX7_pinHottest 56 = .ok (.aload_n 0, 1) := by decide +kernel
theorem dX7_pinHottest_57 : decode cX7_pinHottest 57 = .ok (.aload_n 0, 1) := by decide +kernel
theorem dX7_pinHottest_58 : decode cX7_pinHottest 58 = .ok (.invokevirtual 182, 3) := by decide +kernel
theorem dX7_pinHottest_61 : decode cX7_pinHottest 61 = .ok (.iconst 1, 1) := by decide +kernel
theorem dX7_pinHottest_62 : decode cX7_pinHottest 62 = .ok (.isub, 1) := by decide +kernel
theorem dX7_pinHottest_63 : decode cX7_pinHottest 63 = .ok (.invokevirtual 185, 3) := by decide +kernel
theorem dX7_pinHottest_66 : decode cX7_pinHottest 66 = .ok (.istore_n 2, 1) := by decide +kernel
theorem dX7_pinHottest_67 : decode cX7_pinHottest 67 = .ok (.aload_n 0, 1) := by decide +kernel
theorem dX7_pinHottest_68 : decode cX7_pinHottest 68 = .ok (.aload_n 0, 1) := by decide +kernel
theorem dX7_pinHottest_69 : decode cX7_pinHottest 69 = .ok (.getfield 39, 3) := by decide +kernel
theorem dX7_pinHottest_72 : decode cX7_pinHottest 72 = .ok (.aload_n 0, 1) := by decide +kernel
theorem dX7_pinHottest_73 : decode cX7_pinHottest 73 = .ok (.iconst 0, 1) := by decide +kernel
theorem dX7_pinHottest_74 : decode cX7_pinHottest 74 = .ok (.invokevirtual 194, 3) := by decide +kernel
theorem dX7_pinHottest_77 : decode cX7_pinHottest 77 = .ok (.iaload, 1) := by decide +kernel
theorem dX7_pinHottest_78 : decode cX7_pinHottest 78 = .ok (.iload_n 2, 1) := by decide +kernel
theorem dX7_pinHottest_79 : decode cX7_pinHottest 79 = .ok (.invokevirtual 191, 3) := by decide +kernel
theorem dX7_pinHottest_82 : decode cX7_pinHottest 82 = .ok (.pop, 1) := by decide +kernel
theorem dX7_pinHottest_83 : decode cX7_pinHottest 83 = .ok (.iload_n 2, 1) := by decide +kernel
theorem dX7_pinHottest_84 : decode cX7_pinHottest 84 = .ok (.ireturn, 1) := by decide +kernel
theorem dX7_noEntry_0 : decode cX7_noEntry 0 = .ok (.iload_n 1, 1) := by decide +kernel
theorem dX7_noEntry_1 : decode cX7_noEntry 1 = .ok (.i2l, 1) := by decide +kernel
theorem dX7_noEntry_2 : decode cX7_noEntry 2 = .ok (.lconst 0, 1) := by decide +kernel
theorem dX7_noEntry_3 : decode cX7_noEntry 3 = .ok (.aload_n 0, 1) := by decide +kernel
theorem dX7_noEntry_4 : decode cX7_noEntry 4 = .ok (.getfield 85, 3) := by decide +kernel
theorem dX7_noEntry_7 : decode cX7_noEntry 7 = .ok (.iconst 1, 1) := by decide +kernel
theorem dX7_noEntry_8 : decode cX7_noEntry 8 = .ok (.isub, 1) := by decide +kernel
theorem dX7_noEntry_9 : decode cX7_noEntry 9 = .ok (.i2l, 1) := by decide +kernel
theorem dX7_noEntry_10 : decode cX7_noEntry 10 = .ok (.invokestatic 93, 3) := by decide +kernel
theorem dX7_noEntry_13 : decode cX7_noEntry 13 = .ok (.ifCond .ne 7, 3) := by decide +kernel
theorem dX7_noEntry_16 : decode cX7_noEntry 16 = .ok (.iconst 1, 1) := by decide +kernel
theorem dX7_noEntry_17 : decode cX7_noEntry 17 = .ok (.goto 4, 3) := by decide +kernel
theorem dX7_noEntry_20 : decode cX7_noEntry 20 = .ok (.iconst 0, 1) := by decide +kernel
theorem dX7_noEntry_21 : decode cX7_noEntry 21 = .ok (.ireturn, 1) := by decide +kernel
theorem dX7_hotKey_0 : decode cX7_hotKey 0 = .ok (.aload_n 0, 1) := by decide +kernel
theorem dX7_hotKey_1 : decode cX7_hotKey 1 = .ok (.aload_n 0, 1) := by decide +kernel
theorem dX7_hotKey_2 : decode cX7_hotKey 2 = .ok (.iload_n 1, 1) := by decide +kernel
theorem dX7_hotKey_3 : decode cX7_hotKey 3 = .ok (.invokevirtual 197, 3) := by decide +kernel
theorem dX7_hotKey_6 : decode cX7_hotKey 6 = .ok (.iconst 0, 1) := by decide +kernel
theorem dX7_hotKey_7 : decode cX7_hotKey 7 = .ok (.invokevirtual 124, 3) := by decide +kernel
theorem dX7_hotKey_10 : decode cX7_hotKey 10 = .ok (.ifCond .eq 7, 3) := by decide +kernel
theorem dX7_hotKey_13 : decode cX7_hotKey 13 = .ok (.iconst 0, 1) := by decide +kernel
theorem dX7_hotKey_14 : decode cX7_hotKey 14 = .ok (.goto 13, 3) := by decide +kernel
theorem dX7_hotKey_17 : decode cX7_hotKey 17 = .ok (.aload_n 0, 1) := by decide +kernel
theorem dX7_hotKey_18 : decode cX7_hotKey 18 = .ok (.getfield 39, 3) := by decide +kernel
theorem dX7_hotKey_21 : decode cX7_hotKey 21 = .ok (.aload_n 0, 1) := by decide +kernel
theorem dX7_hotKey_22 : decode cX7_hotKey 22 = .ok (.iload_n 1, 1) := by decide +kernel
theorem dX7_hotKey_23 : decode cX7_hotKey 23 = .ok (.invokevirtual 194, 3) := by decide +kernel
theorem dX7_hotKey_26 : decode cX7_hotKey 26 = .ok (.iaload, 1) := by decide +kernel
theorem dX7_hotKey_27 : decode cX7_hotKey 27 = .ok (.ireturn, 1) := by decide +kernel
theorem dX7_hotCount_0 : decode cX7_hotCount 0 = .ok (.aload_n 0, 1) := by decide +kernel
theorem dX7_hotCount_1 : decode cX7_hotCount 1 = .ok (.aload_n 0, 1) := by decide +kernel
theorem dX7_hotCount_2 : decode cX7_hotCount 2 = .ok (.iload_n 1, 1) := by decide +kernel
theorem dX7_hotCount_3 : decode cX7_hotCount 3 = .ok (.invokevirtual 197, 3) := by decide +kernel
theorem dX7_hotCount_6 : decode cX7_hotCount 6 = .ok (.iconst 0, 1) := by decide +kernel
theorem dX7_hotCount_7 : decode cX7_hotCount 7 = .ok (.invokevirtual 124, 3) := by decide +kernel
theorem dX7_hotCount_10 : decode cX7_hotCount 10 = .ok (.ifCond .eq 7, 3) := by decide +kernel
theorem dX7_hotCount_13 : decode cX7_hotCount 13 = .ok (.lconst 0, 1) := by decide +kernel
theorem dX7_hotCount_14 : decode cX7_hotCount 14 = .ok (.goto 13, 3) := by decide +kernel
theorem dX7_hotCount_17 : decode cX7_hotCount 17 = .ok (.aload_n 0, 1) := by decide +kernel
theorem dX7_hotCount_18 : decode cX7_hotCount 18 = .ok (.getfield 42, 3) := by decide +kernel
theorem dX7_hotCount_21 : decode cX7_hotCount 21 = .ok (.aload_n 0, 1) := by decide +kernel
theorem dX7_hotCount_22 : decode cX7_hotCount 22 = .ok (.iload_n 1, 1) := by decide +kernel
theorem dX7_hotCount_23 : decode cX7_hotCount 23 = .ok (.invokevirtual 194, 3) := by decide +kernel
theorem dX7_hotCount_26 : decode cX7_hotCount 26 = .ok (.laload, 1) := by decide +kernel
theorem dX7_hotCount_27 : decode cX7_hotCount 27 = .ok (.lreturn, 1) := by decide +kernel
theorem dX7_hotError_0 : decode cX7_hotError 0 = .ok (.aload_n 0, 1) := by decide +kernel
theorem dX7_hotError_1 : decode cX7_hotError 1 = .ok (.aload_n 0, 1) := by decide +kernel
theorem dX7_hotError_2 : decode cX7_hotError 2 = .ok (.iload_n 1, 1) := by decide +kernel
theorem dX7_hotError_3 : decode cX7_hotError 3 = .ok (.invokevirtual 197, 3) := by decide +kernel
theorem dX7_hotError_6 : decode cX7_hotError 6 = .ok (.iconst 0, 1) := by decide +kernel
theorem dX7_hotError_7 : decode cX7_hotError 7 = .ok (.invokevirtual 124, 3) := by decide +kernel
theorem dX7_hotError_10 : decode cX7_hotError 10 = .ok (.ifCond .eq 7, 3) := by decide +kernel
theorem dX7_hotError_13 : decode cX7_hotError 13 = .ok (.lconst 0, 1) := by decide +kernel
theorem dX7_hotError_14 : decode cX7_hotError 14 = .ok (.goto 13, 3) := by decide +kernel
theorem dX7_hotError_17 : decode cX7_hotError 17 = .ok (.aload_n 0, 1) := by decide +kernel
theorem dX7_hotError_18 : decode cX7_hotError 18 = .ok (.getfield 45, 3) := by decide +kernel
theorem dX7_hotError_21 : decode cX7_hotError 21 = .ok (.aload_n 0, 1) := by decide +kernel
theorem dX7_hotError_22 : decode cX7_hotError 22 = .ok (.iload_n 1, 1) := by decide +kernel
theorem dX7_hotError_23 : decode cX7_hotError 23 = .ok (.invokevirtual 194, 3) := by decide +kernel
theorem dX7_hotError_26 : decode cX7_hotError 26 = .ok (.laload, 1) := by decide +kernel
theorem dX7_hotError_27 : decode cX7_hotError 27 = .ok (.lreturn, 1) := by decide +kernel
theorem k_X7_at_161 : aKV mX7_at mX7_pinOf 161 1 7 := ⟨cb_X7_pinOf, rfl, ml_X7_161, iv_X7_pinOf, sl_X7_pinOf, ⟨_, _, rfl⟩, ⟨Nat.le_of_ble_eq_true rfl, Nat.le_of_ble_eq_true rfl⟩⟩
theorem k_X7_serverOf_170 : aKS mX7_serverOf mX7_noKey 170 1 := ⟨cb_X7_noKey, rfl, ml_X7_170, st_X7_noKey, ⟨Nat.le_of_ble_eq_true rfl, Nat.le_of_ble_eq_true rfl⟩⟩
theorem k_X7_serverOf_124 : aKV mX7_serverOf mX7_isRefused 124 2 7 := ⟨cb_X7_isRefused, rfl, ml_X7_124, iv_X7_isRefused, sl_X7_isRefused, ⟨_, _, rfl⟩, ⟨Nat.le_of_ble_eq_true rfl, Nat.le_of_ble_eq_true rfl⟩⟩
theorem k_X7_serverOf_173 : aKV mX7_serverOf mX7_at 173 1 7 := ⟨cb_X7_at, rfl, ml_X7_173, iv_X7_at, sl_X7_at, ⟨_, _, rfl⟩, ⟨Nat.le_of_ble_eq_true rfl, Nat.le_of_ble_eq_true rfl⟩⟩
theorem k_X7_rankedServer_182 : aKV mX7_rankedServer mX7_ups 182 0 7 := ⟨cb_X7_ups, rfl, ml_X7_182, iv_X7_ups, sl_X7_ups, ⟨_, _, rfl⟩, ⟨Nat.le_of_ble_eq_true rfl, Nat.le_of_ble_eq_true rfl⟩⟩
theorem k_X7_rankedServer_93 : aKS mX7_rankedServer mX7_in 93 3 := ⟨cb_X7_in, rfl, ml_X7_93, st_X7_in, ⟨Nat.le_of_ble_eq_true rfl, Nat.le_of_ble_eq_true rfl⟩⟩
theorem k_X7_rankedServer_124 : aKV mX7_rankedServer mX7_isRefused 124 2 7 := ⟨cb_X7_isRefused, rfl, ml_X7_124, iv_X7_isRefused, sl_X7_isRefused, ⟨_, _, rfl⟩, ⟨Nat.le_of_ble_eq_true rfl, Nat.le_of_ble_eq_true rfl⟩⟩
theorem k_X7_rankedServer_185 : aKV mX7_rankedServer mX7_ranked 185 1 7 := ⟨cb_X7_ranked, rfl, ml_X7_185, iv_X7_ranked, sl_X7_ranked, ⟨_, _, rfl⟩, ⟨Nat.le_of_ble_eq_true rfl, Nat.le_of_ble_eq_true rfl⟩⟩
theorem k_X7_pinsTo_161 : aKV mX7_pinsTo mX7_pinOf 161 1 7 := ⟨cb_X7_pinOf, rfl, ml_X7_161, iv_X7_pinOf, sl_X7_pinOf, ⟨_, _, rfl⟩, ⟨Nat.le_of_ble_eq_true rfl, Nat.le_of_ble_eq_true rfl⟩⟩
theorem k_X7_noRoom_161 : aKV mX7_noRoom mX7_pinOf 161 1 7 := ⟨cb_X7_pinOf, rfl, ml_X7_161, iv_X7_pinOf, sl_X7_pinOf, ⟨_, _, rfl⟩, ⟨Nat.le_of_ble_eq_true rfl, Nat.le_of_ble_eq_true rfl⟩⟩
theorem k_X7_pin_170 : aKS mX7_pin mX7_noKey 170 1 := ⟨cb_X7_noKey, rfl, ml_X7_170, st_X7_noKey, ⟨Nat.le_of_ble_eq_true rfl, Nat.le_of_ble_eq_true rfl⟩⟩
theorem k_X7_pin_158 : aKV mX7_pin mX7_noServer 158 1 7 := ⟨cb_X7_noServer, rfl, ml_X7_158, iv_X7_noServer, sl_X7_noServer, ⟨_, _, rfl⟩, ⟨Nat.le_of_ble_eq_true rfl, Nat.le_of_ble_eq_true rfl⟩⟩
theorem k_X7_pin_188 : aKV mX7_pin mX7_noRoom 188 1 7 := ⟨cb_X7_noRoom, rfl, ml_X7_188, iv_X7_noRoom, sl_X7_noRoom, ⟨_, _, rfl⟩, ⟨Nat.le_of_ble_eq_true rfl, Nat.le_of_ble_eq_true rfl⟩⟩
theorem k_X7_pin_124 : aKV mX7_pin mX7_isRefused 124 2 7 := ⟨cb_X7_isRefused, rfl, ml_X7_124, iv_X7_isRefused, sl_X7_isRefused, ⟨_, _, rfl⟩, ⟨Nat.le_of_ble_eq_true rfl, Nat.le_of_ble_eq_true rfl⟩⟩
theorem k_X7_pin_191 : aKV mX7_pin mX7_pinsTo 191 2 7 := ⟨cb_X7_pinsTo, rfl, ml_X7_191, iv_X7_pinsTo, sl_X7_pinsTo, ⟨_, _, rfl⟩, ⟨Nat.le_of_ble_eq_true rfl, Nat.le_of_ble_eq_true rfl⟩⟩
theorem k_X7_unpin_170 : aKS mX7_unpin mX7_noKey 170 1 := ⟨cb_X7_noKey, rfl, ml_X7_170, st_X7_noKey, ⟨Nat.le_of_ble_eq_true rfl, Nat.le_of_ble_eq_true rfl⟩⟩
theorem k_X7_unpin_124 : aKV mX7_unpin mX7_isRefused 124 2 7 := ⟨cb_X7_isRefused, rfl, ml_X7_124, iv_X7_isRefused, sl_X7_isRefused, ⟨_, _, rfl⟩, ⟨Nat.le_of_ble_eq_true rfl, Nat.le_of_ble_eq_true rfl⟩⟩
theorem k_X7_unpin_161 : aKV mX7_unpin mX7_pinOf 161 1 7 := ⟨cb_X7_pinOf, rfl, ml_X7_161, iv_X7_pinOf, sl_X7_pinOf, ⟨_, _, rfl⟩, ⟨Nat.le_of_ble_eq_true rfl, Nat.le_of_ble_eq_true rfl⟩⟩
theorem k_X7_noEntry_93 : aKS mX7_noEntry mX7_in 93 3 := ⟨cb_X7_in, rfl, ml_X7_93, st_X7_in, ⟨Nat.le_of_ble_eq_true rfl, Nat.le_of_ble_eq_true rfl⟩⟩
theorem k_X7_hotKey_197 : aKV mX7_hotKey mX7_noEntry 197 1 7 := ⟨cb_X7_noEntry, rfl, ml_X7_197, iv_X7_noEntry, sl_X7_noEntry, ⟨_, _, rfl⟩, ⟨Nat.le_of_ble_eq_true rfl, Nat.le_of_ble_eq_true rfl⟩⟩
theorem k_X7_hotKey_124 : aKV mX7_hotKey mX7_isRefused 124 2 7 := ⟨cb_X7_isRefused, rfl, ml_X7_124, iv_X7_isRefused, sl_X7_isRefused, ⟨_, _, rfl⟩, ⟨Nat.le_of_ble_eq_true rfl, Nat.le_of_ble_eq_true rfl⟩⟩
theorem k_X7_hotKey_194 : aKV mX7_hotKey mX7_listed 194 1 7 := ⟨cb_X7_listed, rfl, ml_X7_194, iv_X7_listed, sl_X7_listed, ⟨_, _, rfl⟩, ⟨Nat.le_of_ble_eq_true rfl, Nat.le_of_ble_eq_true rfl⟩⟩
theorem k_X7_hotCount_197 : aKV mX7_hotCount mX7_noEntry 197 1 7 := ⟨cb_X7_noEntry, rfl, ml_X7_197, iv_X7_noEntry, sl_X7_noEntry, ⟨_, _, rfl⟩, ⟨Nat.le_of_ble_eq_true rfl, Nat.le_of_ble_eq_true rfl⟩⟩
theorem k_X7_hotCount_124 : aKV mX7_hotCount mX7_isRefused 124 2 7 := ⟨cb_X7_isRefused, rfl, ml_X7_124, iv_X7_isRefused, sl_X7_isRefused, ⟨_, _, rfl⟩, ⟨Nat.le_of_ble_eq_true rfl, Nat.le_of_ble_eq_true rfl⟩⟩
theorem k_X7_hotCount_194 : aKV mX7_hotCount mX7_listed 194 1 7 := ⟨cb_X7_listed, rfl, ml_X7_194, iv_X7_listed, sl_X7_listed, ⟨_, _, rfl⟩, ⟨Nat.le_of_ble_eq_true rfl, Nat.le_of_ble_eq_true rfl⟩⟩
theorem k_X7_hotError_197 : aKV mX7_hotError mX7_noEntry 197 1 7 := ⟨cb_X7_noEntry, rfl, ml_X7_197, iv_X7_noEntry, sl_X7_noEntry, ⟨_, _, rfl⟩, ⟨Nat.le_of_ble_eq_true rfl, Nat.le_of_ble_eq_true rfl⟩⟩
theorem k_X7_hotError_124 : aKV mX7_hotError mX7_isRefused 124 2 7 := ⟨cb_X7_isRefused, rfl, ml_X7_124, iv_X7_isRefused, sl_X7_isRefused, ⟨_, _, rfl⟩, ⟨Nat.le_of_ble_eq_true rfl, Nat.le_of_ble_eq_true rfl⟩⟩
theorem k_X7_hotError_194 : aKV mX7_hotError mX7_listed 194 1 7 := ⟨cb_X7_listed, rfl, ml_X7_194, iv_X7_listed, sl_X7_listed, ⟨_, _, rfl⟩, ⟨Nat.le_of_ble_eq_true rfl, Nat.le_of_ble_eq_true rfl⟩⟩
theorem k_X7_pinHottest_124 : aKV mX7_pinHottest mX7_isRefused 124 2 7 := ⟨cb_X7_isRefused, rfl, ml_X7_124, iv_X7_isRefused, sl_X7_isRefused, ⟨_, _, rfl⟩, ⟨Nat.le_of_ble_eq_true rfl, Nat.le_of_ble_eq_true rfl⟩⟩
theorem k_X7_pinHottest_182 : aKV mX7_pinHottest mX7_ups 182 0 7 := ⟨cb_X7_ups, rfl, ml_X7_182, iv_X7_ups, sl_X7_ups, ⟨_, _, rfl⟩, ⟨Nat.le_of_ble_eq_true rfl, Nat.le_of_ble_eq_true rfl⟩⟩
theorem k_X7_pinHottest_194 : aKV mX7_pinHottest mX7_listed 194 1 7 := ⟨cb_X7_listed, rfl, ml_X7_194, iv_X7_listed, sl_X7_listed, ⟨_, _, rfl⟩, ⟨Nat.le_of_ble_eq_true rfl, Nat.le_of_ble_eq_true rfl⟩⟩
theorem k_X7_pinHottest_188 : aKV mX7_pinHottest mX7_noRoom 188 1 7 := ⟨cb_X7_noRoom, rfl, ml_X7_188, iv_X7_noRoom, sl_X7_noRoom, ⟨_, _, rfl⟩, ⟨Nat.le_of_ble_eq_true rfl, Nat.le_of_ble_eq_true rfl⟩⟩
theorem k_X7_pinHottest_185 : aKV mX7_pinHottest mX7_ranked 185 1 7 := ⟨cb_X7_ranked, rfl, ml_X7_185, iv_X7_ranked, sl_X7_ranked, ⟨_, _, rfl⟩, ⟨Nat.le_of_ble_eq_true rfl, Nat.le_of_ble_eq_true rfl⟩⟩
theorem k_X7_pinHottest_191 : aKV mX7_pinHottest mX7_pinsTo 191 2 7 := ⟨cb_X7_pinsTo, rfl, ml_X7_191, iv_X7_pinsTo, sl_X7_pinsTo, ⟨_, _, rfl⟩, ⟨Nat.le_of_ble_eq_true rfl, Nat.le_of_ble_eq_true rfl⟩⟩
/-! ===== PreferenceTableModel: ranking, pins, tracker ===== -/
def mRk (v : sT) (t s : Nat) : Bool := decide (0 < lg_cmp (v.2.2.2.1 t * (v.2.2.1 s).toInt64) (v.2.2.2.1 s * (v.2.2.1 t).toInt64)) || (decide (lg_cmp (v.2.2.2.1 t * (v.2.2.1 s).toInt64) (v.2.2.2.1 s * (v.2.2.1 t).toInt64) = 0) && decide (¬ nI s ≤ nI t))
def mCb (v : sT) (s : Nat) : Int32 := aLp (fun t c => if decide (v.1 t = 2) && mRk v t s then c + 1 else c) 10 0 0
def mRd (v : sT) (p : Int32) : Option Nat := aFo (fun s => decide (v.1 s = 2) && decide (mCb v s = p)) 10 0
theorem oI_s (i : Nat) : oI (some i) = nI i := rfl
theorem bI_t (b : Bool) : ¬ bI (true || b) = 0 := by simp [bI]
section MO4
variable {l : Launch} {X : aX} {f : Int32} {v : sT} {u : uT} {k : kT} {q : qT}
theorem c_X7_ranked (p : Int32) : aRd l X mX7_ranked is19 [.ref 0, .int p] (aMo f v u k q) (.int (oI (mRd v p))) := by
  refine aMt.of (by decide) rfl (Nat.le_of_ble_eq_true rfl) ?_
  generalize hr : mRd v p = r
  refine a_iconst 0 dX7_ranked_0 (by decide) ?_
  refine a_istore_n dX7_ranked_1 (by decide) rfl ?_
  have lp : ∀ (n s : Nat), s + n = 10 → aFo (fun s => decide (v.1 s = 2) && decide (mCb v s = p)) n s = r → aJ l X mX7_ranked (aEd X mX7_ranked is19 (fun o h' => o = .inl (some (.int (oI r))) ∧ h' = aMo f v u k q)) 0 0 2 [.ref 0, .int p, .int (nI s), .null, .null, .null, .null, .null, .null] [] (aMo f v u k q) := by
    intro n
    induction n with
    | zero =>
      intro s hs hq
      obtain rfl : s = 10 := by omega
      refine a_iload_n dX7_ranked_2 rfl ?_
      refine a_bipush 10 dX7_ranked_3 (by decide) ?_
      refine a_icmp_ge 124 dX7_ranked_5 (by decide) (fun _ => ?_) (fun z => absurd ge10_t z)
      refine a_iconst (-1) dX7_ranked_124 (by decide) ?_
      refine a_iret rfl dX7_ranked_125 (by decide) (by decide) ?_
      exact ⟨by rw [← hq]; rfl, rfl⟩
    | succ n ih =>
      intro s hs hq
      have hi : vp_in (nI s) 10 := in10 (by omega)
      refine a_iload_n dX7_ranked_2 rfl ?_
      refine a_bipush 10 dX7_ranked_3 (by decide) ?_
      refine a_icmp_ge 124 dX7_ranked_5 (by decide) (fun z => absurd z (ge10_f (by omega))) (fun _ => ?_)
      refine a_iconst 0 dX7_ranked_8 (by decide) ?_
      refine a_istore_n dX7_ranked_9 (by decide) rfl ?_
      refine a_iconst 0 dX7_ranked_10 (by decide) ?_
      refine a_istore dX7_ranked_11 (by decide) rfl ?_
      have inner : ∀ (m t : Nat) (a : Int32), t + m = 10 → aLp (fun t c => if decide (v.1 t = 2) && mRk v t s then c + 1 else c) m t a = mCb v s → aJ l X mX7_ranked (aEd X mX7_ranked is19 (fun o h' => o = .inl (some (.int (oI r))) ∧ h' = aMo f v u k q)) 0 0 13 [.ref 0, .int p, .int (nI s), .int a, .int (nI t), .null, .null, .null, .null] [] (aMo f v u k q) := by
        intro m
        induction m with
        | zero =>
          intro t a ht ha
          obtain rfl : t = 10 := by omega
          have ha' : a = mCb v s := ha
          rw [ha']
          refine a_iload dX7_ranked_13 rfl ?_
          refine a_bipush 10 dX7_ranked_15 (by decide) ?_
          refine a_icmp_ge 101 dX7_ranked_17 (by decide) (fun _ => ?_) (fun z => absurd ge10_t z)
          refine a_aload_n dX7_ranked_101 rfl ?_
          refine a_get fl_X7_13 dX7_ranked_102 rfl rfl ?_
          refine a_iload_n dX7_ranked_105 rfl ?_
          refine a_iald dX7_ranked_106 rfl (by assumption) ?_
          refine a_iconst 2 dX7_ranked_107 (by decide) ?_
          refine a_icmp_ne 118 dX7_ranked_108 (by decide) (fun c108 => ?_) (fun c108 => ?_)
          · rw [cl10 (by omega)] at c108
            refine a_iinc (nI (s + 1)) dX7_ranked_118 rfl (nI_1 _) (by decide) rfl ?_
            refine a_goto 2 dX7_ranked_121 (by decide) ?_
            refine a_drop 3 ?_
            refine a_drop 4 ?_
            exact ih (s + 1) (by omega) (by rw [← hq]; simp [aFo, c108])
          · rw [cl10 (by omega)] at c108
            refine a_iload_n dX7_ranked_111 rfl ?_
            refine a_iload_n dX7_ranked_112 rfl ?_
            refine a_icmp_ne 118 dX7_ranked_113 (by decide) (fun c113 => ?_) (fun c113 => ?_)
            · refine a_iinc (nI (s + 1)) dX7_ranked_118 rfl (nI_1 _) (by decide) rfl ?_
              refine a_goto 2 dX7_ranked_121 (by decide) ?_
              refine a_drop 3 ?_
              refine a_drop 4 ?_
              exact ih (s + 1) (by omega) (by rw [← hq]; simp [aFo, c113])
            · refine a_iload_n dX7_ranked_116 rfl ?_
              refine a_iret rfl dX7_ranked_117 (by decide) (by decide) ?_
              exact ⟨by rw [← hq]; simp [aFo, c108, c113, oI], rfl⟩
        | succ m ihm =>
          intro t a ht ha
          have hi2 : vp_in (nI t) 10 := in10 (by omega)
          have nx : ∀ (b : Int32), (if decide (v.1 t = 2) && mRk v t s then a + 1 else a) = b → aJ l X mX7_ranked (aEd X mX7_ranked is19 (fun o h' => o = .inl (some (.int (oI r))) ∧ h' = aMo f v u k q)) 0 0 94 [.ref 0, .int p, .int (nI s), .int a, .int (nI t), .null, .null, .null, .null] [.int b] (aMo f v u k q) := by
            intro b hb
            refine a_istore_n dX7_ranked_94 (by decide) rfl ?_
            refine a_iinc (nI (t + 1)) dX7_ranked_95 rfl (nI_1 _) (by decide) rfl ?_
            refine a_goto 13 dX7_ranked_98 (by decide) ?_
            exact ihm (t + 1) b (by omega) (by rw [← ha, ← hb]; rfl)
          refine a_iload dX7_ranked_13 rfl ?_
          refine a_bipush 10 dX7_ranked_15 (by decide) ?_
          refine a_icmp_ge 101 dX7_ranked_17 (by decide) (fun z => absurd z (ge10_f (by omega))) (fun _ => ?_)
          refine a_aload_n dX7_ranked_20 rfl ?_
          refine a_get fl_X7_23 dX7_ranked_21 rfl rfl ?_
          refine a_iload_n dX7_ranked_24 rfl ?_
          refine a_lald dX7_ranked_25 rfl (by assumption) ?_
          refine a_aload_n dX7_ranked_26 rfl ?_
          refine a_get fl_X7_20 dX7_ranked_27 rfl rfl ?_
          refine a_iload dX7_ranked_30 rfl ?_
          refine a_iald dX7_ranked_32 rfl (by assumption) ?_
          rw [cl10 (show s < 10 by omega), cl10 (show t < 10 by omega)]
          refine a_i2l dX7_ranked_33 ?_
          refine a_lmul dX7_ranked_34 ?_
          refine a_lstore dX7_ranked_35 (by decide) rfl ?_
          refine a_aload_n dX7_ranked_37 rfl ?_
          refine a_get fl_X7_23 dX7_ranked_38 rfl rfl ?_
          refine a_iload dX7_ranked_41 rfl ?_
          refine a_lald dX7_ranked_43 rfl (by assumption) ?_
          refine a_aload_n dX7_ranked_44 rfl ?_
          refine a_get fl_X7_20 dX7_ranked_45 rfl rfl ?_
          refine a_iload_n dX7_ranked_48 rfl ?_
          refine a_iald dX7_ranked_49 rfl (by assumption) ?_
          rw [cl10 (show s < 10 by omega), cl10 (show t < 10 by omega)]
          refine a_i2l dX7_ranked_50 ?_
          refine a_lmul dX7_ranked_51 ?_
          refine a_lstore dX7_ranked_52 (by decide) rfl ?_
          refine a_iload_n dX7_ranked_54 rfl ?_
          refine a_aload_n dX7_ranked_55 rfl ?_
          refine a_get fl_X7_13 dX7_ranked_56 rfl rfl ?_
          refine a_iload dX7_ranked_59 rfl ?_
          refine a_iald dX7_ranked_61 rfl (by assumption) ?_
          refine a_iconst 2 dX7_ranked_62 (by decide) ?_
          refine a_icmp_ne 92 dX7_ranked_63 (by decide) (fun c63 => ?_) (fun c63 => ?_)
          · rw [cl10 (by omega)] at c63
            refine a_iconst 0 dX7_ranked_92 (by decide) ?_
            refine a_iadd dX7_ranked_93 ?_
            refine a_drop 5 ?_
            refine a_drop 7 ?_
            exact nx (a + 0) (by simp [c63])
          · rw [cl10 (by omega)] at c63
            refine a_lload dX7_ranked_66 rfl ?_
            refine a_lload dX7_ranked_68 rfl ?_
            refine a_lcmp dX7_ranked_70 ?_
            refine a_if_gt 88 dX7_ranked_71 (by decide) (fun c71 => ?_) (fun c71 => ?_)
            · refine a_iconst 1 dX7_ranked_88 (by decide) ?_
              refine a_goto 93 dX7_ranked_89 (by decide) ?_
              refine a_iadd dX7_ranked_93 ?_
              refine a_drop 5 ?_
              refine a_drop 7 ?_
              exact nx (a + 1) (by simp [c63, mRk, c71])
            · refine a_lload dX7_ranked_74 rfl ?_
              refine a_lload dX7_ranked_76 rfl ?_
              refine a_lcmp dX7_ranked_78 ?_
              refine a_if_ne 92 dX7_ranked_79 (by decide) (fun c79 => ?_) (fun c79 => ?_)
              · refine a_iconst 0 dX7_ranked_92 (by decide) ?_
                refine a_iadd dX7_ranked_93 ?_
                refine a_drop 5 ?_
                refine a_drop 7 ?_
                exact nx (a + 0) (by simp [mRk, c71, c79])
              · refine a_iload dX7_ranked_82 rfl ?_
                refine a_iload_n dX7_ranked_84 rfl ?_
                refine a_icmp_ge 92 dX7_ranked_85 (by decide) (fun c85 => ?_) (fun c85 => ?_)
                · refine a_iconst 0 dX7_ranked_92 (by decide) ?_
                  refine a_iadd dX7_ranked_93 ?_
                  refine a_drop 5 ?_
                  refine a_drop 7 ?_
                  exact nx (a + 0) (by simp [mRk, c71, c85])
                · refine a_iconst 1 dX7_ranked_88 (by decide) ?_
                  refine a_goto 93 dX7_ranked_89 (by decide) ?_
                  refine a_iadd dX7_ranked_93 ?_
                  refine a_drop 5 ?_
                  refine a_drop 7 ?_
                  exact nx (a + 1) (by simp [c63, mRk, c79, c85])
      exact inner 10 0 0 rfl rfl
  exact lp 10 0 rfl hr
def mPo (v : sT) (key : Int32) : Option Nat := aFo (fun j => decide (v.2.2.2.2.1 j = key)) v.2.2.2.2.2.2 0
theorem c_X7_pinOf (hm : v.2.2.2.2.2.2 ≤ 6) (key : Int32) : aRd l X mX7_pinOf is19 [.ref 0, .int key] (aMo f v u k q) (.int (oI (mPo v key))) := by
  refine aMt.of (by decide) rfl (Nat.le_of_ble_eq_true rfl) ?_
  generalize hr : mPo v key = r
  refine a_iconst 0 dX7_pinOf_0 (by decide) ?_
  refine a_istore_n dX7_pinOf_1 (by decide) rfl ?_
  have lp : ∀ (n j : Nat), j + n = v.2.2.2.2.2.2 → aFo (fun j => decide (v.2.2.2.2.1 j = key)) n j = r → aJ l X mX7_pinOf (aEd X mX7_pinOf is19 (fun o h' => o = .inl (some (.int (oI r))) ∧ h' = aMo f v u k q)) 0 0 2 [.ref 0, .int key, .int (nI j)] [] (aMo f v u k q) := by
    intro n
    induction n with
    | zero =>
      intro j hj hq
      obtain rfl : j = v.2.2.2.2.2.2 := by omega
      refine a_iload_n dX7_pinOf_2 rfl ?_
      refine a_aload_n dX7_pinOf_3 rfl ?_
      refine a_get fl_X7_82 dX7_pinOf_4 rfl rfl ?_
      refine a_icmp_ge 28 dX7_pinOf_7 (by decide) (fun _ => ?_) (fun z => absurd (nI_le (Nat.le_refl _) (by omega)) z)
      refine a_iconst (-1) dX7_pinOf_28 (by decide) ?_
      refine a_iret rfl dX7_pinOf_29 (by decide) (by decide) ?_
      exact ⟨by rw [← hq]; rfl, rfl⟩
    | succ n ih =>
      intro j hj hq
      have hi : vp_in (nI j) 6 := in6 (by omega)
      refine a_iload_n dX7_pinOf_2 rfl ?_
      refine a_aload_n dX7_pinOf_3 rfl ?_
      refine a_get fl_X7_82 dX7_pinOf_4 rfl rfl ?_
      refine a_icmp_ge 28 dX7_pinOf_7 (by decide) (fun z => absurd z (nI_ge (by omega) (by omega))) (fun _ => ?_)
      refine a_aload_n dX7_pinOf_10 rfl ?_
      refine a_get fl_X7_33 dX7_pinOf_11 rfl rfl ?_
      refine a_iload_n dX7_pinOf_14 rfl ?_
      refine a_iald dX7_pinOf_15 rfl (by assumption) ?_
      refine a_iload_n dX7_pinOf_16 rfl ?_
      refine a_icmp_ne 22 dX7_pinOf_17 (by decide) (fun c17 => ?_) (fun c17 => ?_)
      · rw [cl6 (by omega)] at c17
        refine a_iinc (nI (j + 1)) dX7_pinOf_22 rfl (nI_1 _) (by decide) rfl ?_
        refine a_goto 2 dX7_pinOf_25 (by decide) ?_
        exact ih (j + 1) (by omega) (by rw [← hq]; simp [aFo, c17])
      · rw [cl6 (by omega)] at c17
        refine a_iload_n dX7_pinOf_20 rfl ?_
        refine a_iret rfl dX7_pinOf_21 (by decide) (by decide) ?_
        exact ⟨by rw [← hq]; simp [aFo, c17, oI], rfl⟩
  exact lp v.2.2.2.2.2.2 0 (by omega) hr
/-- pins are to numbers of servers -/
def vPo (v : sT) : Prop := v.2.2.2.2.2.2 ≤ 6 ∧ ∀ j, j < v.2.2.2.2.2.2 → ∃ s, s < 10 ∧ v.2.2.2.2.2.1 j = nI s
def mAt (v : sT) (u : uT) (key : Nat) : Int32 := match mPo v (nI key) with
  | some i => if v.1 (v.2.2.2.2.2.1 i).toNatClampNeg = 2 then v.2.2.2.2.2.1 i else u.2.1 (sKy u.1 key)
  | none => u.2.1 (sKy u.1 key)
theorem c_X7_at_tab (h5 : 5 ≤ u.1) (hM : u.1 ≤ 61) (key : Nat) (hk : key ≤ 99999) {L : List Value} {r : Int32} (hr : u.2.1 (sKy u.1 key) = r) : aJ l X mX7_at (aEd X mX7_at is19 (fun o h' => o = .inl (some (.int r)) ∧ h' = aMo f v u k q)) 0 0 33 [.ref 0, .int (nI key), .null] [] (aMo f v u k q) := by
  refine a_aload_n dX7_at_33 rfl ?_
  refine a_get fl_X7_27 dX7_at_34 rfl rfl ?_
  refine a_ldc2 dX7_at_37 cn_X7_164 ?_
  refine a_iload_n dX7_at_40 rfl ?_
  refine a_i2l dX7_at_41 ?_
  refine a_lmul dX7_at_42 ?_
  refine a_ldc2 dX7_at_43 cn_X7_166 ?_
  refine a_ladd dX7_at_46 ?_
  refine a_ldc2 dX7_at_47 cn_X7_168 ?_
  refine a_lrem dX7_at_50 (by decide) ?_
  have e : (40503 * (nI key).toInt64 + 12345 - (40503 * (nI key).toInt64 + 12345) / 65536 * 65536 : Int64) = lN ((40503 * key + 12345) % 65536) := by
    have e1 : (40503 * (nI key).toInt64 + 12345 : Int64) = lN (40503 * key + 12345) := by
      rw [nI_l (by omega), ← lN_add, ← lN_mul]
      rfl
    rw [e1]
    exact pk_lRem (a := 40503 * key + 12345) (b := 65536) (by omega) (by decide) (by decide)
  rw [e]
  refine a_l2i dX7_at_51 ?_
  rw [lN_i]
  refine a_aload_n dX7_at_52 rfl ?_
  refine a_get fl_X7_7 dX7_at_53 rfl rfl ?_
  refine a_irem dX7_at_56 (nI_ne0 (by omega) (by omega)) ?_
  rw [pk_rem (by omega) (by omega) (by omega)]
  have hb : sKy u.1 key < u.1 := Nat.mod_lt _ (by omega)
  have hi : vp_in (nI (sKy u.1 key)) 61 := in61 (by omega)
  refine a_iald dX7_at_57 rfl hi ?_
  refine a_iret rfl dX7_at_58 (by decide) (by decide) ?_
  refine ⟨?_, rfl⟩
  have hc : (nI ((40503 * key + 12345) % 65536 % u.1)).toNatClampNeg = sKy u.1 key := cl61 (Nat.lt_of_lt_of_le hb hM)
  rw [hc, hr]
theorem c_X7_at (h5 : 5 ≤ u.1) (hM : u.1 ≤ 61) (hp : vPo v) (key : Nat) (hk : key ≤ 99999) : aRd l X mX7_at is19 [.ref 0, .int (nI key)] (aMo f v u k q) (.int (mAt v u key)) := by
  refine aMt.of (by decide) rfl (Nat.le_of_ble_eq_true rfl) ?_
  have hpo := c_X7_pinOf (l := l) (X := X) (f := f) (v := v) (u := u) (k := k) (q := q) hp.1 (nI key)
  cases hf : mPo v (nI key) with
  | none =>
    rw [hf] at hpo
    refine a_aload_n dX7_at_0 rfl ?_
    refine a_iload_n dX7_at_1 rfl ?_
    refine a_ViR is19 k_X7_at_161 (hpo) dX7_at_2 rfl rfl rfl rfl rfl rfl (Nat.le_of_ble_eq_true rfl) ⟨Nat.le_of_ble_eq_true rfl, Nat.le_of_ble_eq_true rfl⟩ ⟨rfl, rfl⟩ ?_
    refine a_istore_n dX7_at_5 (by decide) rfl ?_
    refine a_iload_n dX7_at_6 rfl ?_
    refine a_iconst (-1) dX7_at_7 (by decide) ?_
    refine a_icmp_eq 33 dX7_at_8 (by decide) (fun _ => ?_) (fun z => absurd rfl z)
    refine a_drop 2 ?_
    exact c_X7_at_tab (L := []) h5 hM key hk (by unfold mAt; rw [hf])
  | some i =>
    rw [hf, oI_s] at hpo
    have him : i < v.2.2.2.2.2.2 := by have := (aFo_some hf).2.1; omega
    have h6 := hp.1
    obtain ⟨s, hs, hes⟩ := hp.2 i him
    have hi : vp_in (nI i) 6 := in6 (by omega)
    have hi2 : vp_in (nI s) 10 := in10 hs
    refine a_aload_n dX7_at_0 rfl ?_
    refine a_iload_n dX7_at_1 rfl ?_
    refine a_ViR is19 k_X7_at_161 (hpo) dX7_at_2 rfl rfl rfl rfl rfl rfl (Nat.le_of_ble_eq_true rfl) ⟨Nat.le_of_ble_eq_true rfl, Nat.le_of_ble_eq_true rfl⟩ ⟨rfl, rfl⟩ ?_
    refine a_istore_n dX7_at_5 (by decide) rfl ?_
    refine a_iload_n dX7_at_6 rfl ?_
    refine a_iconst (-1) dX7_at_7 (by decide) ?_
    refine a_icmp_eq 33 dX7_at_8 (by decide) (fun z => absurd z (nI_m1 (by omega))) (fun _ => ?_)
    refine a_aload_n dX7_at_11 rfl ?_
    refine a_get fl_X7_13 dX7_at_12 rfl rfl ?_
    refine a_aload_n dX7_at_15 rfl ?_
    refine a_get fl_X7_36 dX7_at_16 rfl rfl ?_
    refine a_iload_n dX7_at_19 rfl ?_
    refine a_iald dX7_at_20 rfl (by assumption) ?_
    rw [cl6 (by omega), hes]
    refine a_iald dX7_at_21 rfl (by assumption) ?_
    refine a_iconst 2 dX7_at_22 (by decide) ?_
    refine a_icmp_ne 33 dX7_at_23 (by decide) (fun c23 => ?_) (fun c23 => ?_)
    · rw [cl10 hs] at c23
      refine a_drop 2 ?_
      exact c_X7_at_tab (L := []) h5 hM key hk (by unfold mAt; rw [hf]; dsimp only; rw [hes, cl10 hs, if_neg c23])
    · rw [cl10 hs] at c23
      refine a_aload_n dX7_at_26 rfl ?_
      refine a_get fl_X7_36 dX7_at_27 rfl rfl ?_
      refine a_iload_n dX7_at_30 rfl ?_
      refine a_iald dX7_at_31 rfl (by assumption) ?_
      refine a_iret rfl dX7_at_32 (by decide) (by decide) ?_
      rw [cl6 (by omega)]
      exact ⟨by unfold mAt; rw [hf]; dsimp only; rw [hes, cl10 hs, if_pos c23], rfl⟩

theorem c_X7_serverOf_bad (key : Int32) (hg : gKy key = false) : aWr l X mX7_serverOf is19 [.ref 0, .int key] (aMo f v u k q) (some (.int 0)) (aMo 1 v u k q) := by
  refine aMt.of (by decide) rfl (Nat.le_of_ble_eq_true rfl) ?_
  have hc := c_X7_noKey (l := l) (X := X) key
  rw [hg] at hc
  refine a_aload_n dX7_serverOf_0 rfl ?_
  refine a_iload_n dX7_serverOf_1 rfl ?_
  refine a_SiR [] k_X7_serverOf_170 (hc) dX7_serverOf_2 rfl rfl rfl rfl rfl (Nat.le_of_ble_eq_true rfl) ⟨Nat.le_of_ble_eq_true rfl, Nat.le_of_ble_eq_true rfl⟩ ⟨rfl, rfl⟩ ?_
  refine a_iconst 0 dX7_serverOf_5 (by decide) ?_
  refine a_ViW is19 (aMo 1 v u k q) k_X7_serverOf_124 (c_X7_isRefused (f := f) (v := v) (u := u) (k := k) (q := q) true false) dX7_serverOf_6 rfl rfl rfl rfl rfl rfl (Nat.le_of_ble_eq_true rfl) ⟨Nat.le_of_ble_eq_true rfl, Nat.le_of_ble_eq_true rfl⟩ ⟨rfl, rfl⟩ (Nat.le_of_ble_eq_true rfl) rfl ?_
  refine a_if_eq 16 dX7_serverOf_9 (by decide) (fun z => absurd z (by decide)) (fun _ => ?_)
  refine a_iconst 0 dX7_serverOf_12 (by decide) ?_
  refine a_goto 21 dX7_serverOf_13 (by decide) ?_
  refine a_iret rfl dX7_serverOf_21 (by decide) (by decide) ?_
  exact ⟨rfl, rfl⟩
theorem c_X7_serverOf_ok (h5 : 5 ≤ u.1) (hM : u.1 ≤ 61) (hp : vPo v) (key : Nat) (hk : key ≤ 99999) (hg : gKy (nI key) = true) : aWr l X mX7_serverOf is19 [.ref 0, .int (nI key)] (aMo f v u k q) (some (.int (mAt v u key))) (aMo 0 v u k q) := by
  refine aMt.of (by decide) rfl (Nat.le_of_ble_eq_true rfl) ?_
  have hc := c_X7_noKey (l := l) (X := X) (nI key)
  rw [hg] at hc
  refine a_aload_n dX7_serverOf_0 rfl ?_
  refine a_iload_n dX7_serverOf_1 rfl ?_
  refine a_SiR [] k_X7_serverOf_170 (hc) dX7_serverOf_2 rfl rfl rfl rfl rfl (Nat.le_of_ble_eq_true rfl) ⟨Nat.le_of_ble_eq_true rfl, Nat.le_of_ble_eq_true rfl⟩ ⟨rfl, rfl⟩ ?_
  refine a_iconst 0 dX7_serverOf_5 (by decide) ?_
  refine a_ViW is19 (aMo 0 v u k q) k_X7_serverOf_124 (c_X7_isRefused (f := f) (v := v) (u := u) (k := k) (q := q) false false) dX7_serverOf_6 rfl rfl rfl rfl rfl rfl (Nat.le_of_ble_eq_true rfl) ⟨Nat.le_of_ble_eq_true rfl, Nat.le_of_ble_eq_true rfl⟩ ⟨rfl, rfl⟩ (Nat.le_of_ble_eq_true rfl) rfl ?_
  refine a_if_eq 16 dX7_serverOf_9 (by decide) (fun _ => ?_) (fun z => absurd (by decide) z)
  refine a_aload_n dX7_serverOf_16 rfl ?_
  refine a_iload_n dX7_serverOf_17 rfl ?_
  refine a_ViR is19 k_X7_serverOf_173 (c_X7_at (f := 0) (v := v) (u := u) (k := k) (q := q) h5 hM hp key hk) dX7_serverOf_18 rfl rfl rfl rfl rfl rfl (Nat.le_of_ble_eq_true rfl) ⟨Nat.le_of_ble_eq_true rfl, Nat.le_of_ble_eq_true rfl⟩ ⟨rfl, rfl⟩ ?_
  refine a_iret rfl dX7_serverOf_21 (by decide) (by decide) ?_
  exact ⟨rfl, rfl⟩
theorem c_X7_rankedServer_bad (p : Int32) (hg : mIn p.toInt64 0 (mUc v - 1).toInt64 = false) : aWr l X mX7_rankedServer is19 [.ref 0, .int p] (aMo f v u k q) (some (.int 0)) (aMo 1 v u k q) := by
  refine aMt.of (by decide) rfl (Nat.le_of_ble_eq_true rfl) ?_
  have hin := c_X7_in (l := l) (X := X) p.toInt64 0 (mUc v - 1).toInt64
  rw [hg] at hin
  refine a_aload_n dX7_rankedServer_0 rfl ?_
  refine a_iload_n dX7_rankedServer_1 rfl ?_
  refine a_i2l dX7_rankedServer_2 ?_
  refine a_lconst 0 dX7_rankedServer_3 (by decide) ?_
  refine a_aload_n dX7_rankedServer_4 rfl ?_
  refine a_ViR is19 k_X7_rankedServer_182 (c_X7_ups (f := f) (v := v) (u := u) (k := k) (q := q)) dX7_rankedServer_5 rfl rfl rfl rfl rfl rfl (Nat.le_of_ble_eq_true rfl) ⟨Nat.le_of_ble_eq_true rfl, Nat.le_of_ble_eq_true rfl⟩ ⟨rfl, rfl⟩ ?_
  refine a_iconst 1 dX7_rankedServer_8 (by decide) ?_
  refine a_isub dX7_rankedServer_9 ?_
  refine a_i2l dX7_rankedServer_10 ?_
  refine a_SiR [] k_X7_rankedServer_93 (hin) dX7_rankedServer_11 rfl rfl rfl rfl rfl (Nat.le_of_ble_eq_true rfl) ⟨Nat.le_of_ble_eq_true rfl, Nat.le_of_ble_eq_true rfl⟩ ⟨rfl, rfl⟩ ?_
  refine a_if_ne 21 dX7_rankedServer_14 (by decide) (fun z => absurd (by decide) z) (fun _ => ?_)
  refine a_iconst 1 dX7_rankedServer_17 (by decide) ?_
  refine a_goto 22 dX7_rankedServer_18 (by decide) ?_
  refine a_iconst 0 dX7_rankedServer_22 (by decide) ?_
  refine a_ViW is19 (aMo 1 v u k q) k_X7_rankedServer_124 (c_X7_isRefused (f := f) (v := v) (u := u) (k := k) (q := q) true false) dX7_rankedServer_23 rfl rfl rfl rfl rfl rfl (Nat.le_of_ble_eq_true rfl) ⟨Nat.le_of_ble_eq_true rfl, Nat.le_of_ble_eq_true rfl⟩ ⟨rfl, rfl⟩ (Nat.le_of_ble_eq_true rfl) rfl ?_
  refine a_if_eq 33 dX7_rankedServer_26 (by decide) (fun z => absurd z (by decide)) (fun _ => ?_)
  refine a_iconst 0 dX7_rankedServer_29 (by decide) ?_
  refine a_goto 38 dX7_rankedServer_30 (by decide) ?_
  refine a_iret rfl dX7_rankedServer_38 (by decide) (by decide) ?_
  exact ⟨rfl, rfl⟩
theorem c_X7_rankedServer_ok (p : Int32) (hg : mIn p.toInt64 0 (mUc v - 1).toInt64 = true) : aWr l X mX7_rankedServer is19 [.ref 0, .int p] (aMo f v u k q) (some (.int (oI (mRd v p)))) (aMo 0 v u k q) := by
  refine aMt.of (by decide) rfl (Nat.le_of_ble_eq_true rfl) ?_
  have hin := c_X7_in (l := l) (X := X) p.toInt64 0 (mUc v - 1).toInt64
  rw [hg] at hin
  refine a_aload_n dX7_rankedServer_0 rfl ?_
  refine a_iload_n dX7_rankedServer_1 rfl ?_
  refine a_i2l dX7_rankedServer_2 ?_
  refine a_lconst 0 dX7_rankedServer_3 (by decide) ?_
  refine a_aload_n dX7_rankedServer_4 rfl ?_
  refine a_ViR is19 k_X7_rankedServer_182 (c_X7_ups (f := f) (v := v) (u := u) (k := k) (q := q)) dX7_rankedServer_5 rfl rfl rfl rfl rfl rfl (Nat.le_of_ble_eq_true rfl) ⟨Nat.le_of_ble_eq_true rfl, Nat.le_of_ble_eq_true rfl⟩ ⟨rfl, rfl⟩ ?_
  refine a_iconst 1 dX7_rankedServer_8 (by decide) ?_
  refine a_isub dX7_rankedServer_9 ?_
  refine a_i2l dX7_rankedServer_10 ?_
  refine a_SiR [] k_X7_rankedServer_93 (hin) dX7_rankedServer_11 rfl rfl rfl rfl rfl (Nat.le_of_ble_eq_true rfl) ⟨Nat.le_of_ble_eq_true rfl, Nat.le_of_ble_eq_true rfl⟩ ⟨rfl, rfl⟩ ?_
  refine a_if_ne 21 dX7_rankedServer_14 (by decide) (fun _ => ?_) (fun z => absurd z (by decide))
  refine a_iconst 0 dX7_rankedServer_21 (by decide) ?_
  refine a_iconst 0 dX7_rankedServer_22 (by decide) ?_
  refine a_ViW is19 (aMo 0 v u k q) k_X7_rankedServer_124 (c_X7_isRefused (f := f) (v := v) (u := u) (k := k) (q := q) false false) dX7_rankedServer_23 rfl rfl rfl rfl rfl rfl (Nat.le_of_ble_eq_true rfl) ⟨Nat.le_of_ble_eq_true rfl, Nat.le_of_ble_eq_true rfl⟩ ⟨rfl, rfl⟩ (Nat.le_of_ble_eq_true rfl) rfl ?_
  refine a_if_eq 33 dX7_rankedServer_26 (by decide) (fun _ => ?_) (fun z => absurd (by decide) z)
  refine a_aload_n dX7_rankedServer_33 rfl ?_
  refine a_iload_n dX7_rankedServer_34 rfl ?_
  refine a_ViR is19 k_X7_rankedServer_185 (c_X7_ranked (f := 0) (v := v) (u := u) (k := k) (q := q) p) dX7_rankedServer_35 rfl rfl rfl rfl rfl rfl (Nat.le_of_ble_eq_true rfl) ⟨Nat.le_of_ble_eq_true rfl, Nat.le_of_ble_eq_true rfl⟩ ⟨rfl, rfl⟩ ?_
  refine a_iret rfl dX7_rankedServer_38 (by decide) (by decide) ?_
  exact ⟨rfl, rfl⟩
def vPn (v : sT) (pk pt : Nat → Int32) (m : Nat) : sT := (v.1, v.2.1, v.2.2.1, v.2.2.2.1, pk, pt, m)
theorem c_X7_pinsTo_new (hm : v.2.2.2.2.2.2 < 6) (key s : Int32) (hf : mPo v key = none) : aWr l X mX7_pinsTo is19 [.ref 0, .int key, .int s] (aMo f v u k q) (some (.int (nI (v.2.2.2.2.2.2 + 1)))) (aMo f (vPn v (upd v.2.2.2.2.1 v.2.2.2.2.2.2 key) (upd v.2.2.2.2.2.1 v.2.2.2.2.2.2 s) (v.2.2.2.2.2.2 + 1)) u k q) := by
  refine aMt.of (by decide) rfl (Nat.le_of_ble_eq_true rfl) ?_
  have hpo := c_X7_pinOf (l := l) (X := X) (f := f) (v := v) (u := u) (k := k) (q := q) (by omega) key
  rw [hf] at hpo
  have hi : vp_in (nI v.2.2.2.2.2.2) 6 := in6 (by omega)
  refine a_aload_n dX7_pinsTo_0 rfl ?_
  refine a_iload_n dX7_pinsTo_1 rfl ?_
  refine a_ViR is19 k_X7_pinsTo_161 (hpo) dX7_pinsTo_2 rfl rfl rfl rfl rfl rfl (Nat.le_of_ble_eq_true rfl) ⟨Nat.le_of_ble_eq_true rfl, Nat.le_of_ble_eq_true rfl⟩ ⟨rfl, rfl⟩ ?_
  refine a_istore_n dX7_pinsTo_5 (by decide) rfl ?_
  refine a_iload_n dX7_pinsTo_6 rfl ?_
  refine a_iconst (-1) dX7_pinsTo_7 (by decide) ?_
  refine a_icmp_ne 26 dX7_pinsTo_8 (by decide) (fun z => absurd rfl z) (fun _ => ?_)
  refine a_aload_n dX7_pinsTo_11 rfl ?_
  refine a_get fl_X7_82 dX7_pinsTo_12 rfl rfl ?_
  refine a_istore_n dX7_pinsTo_15 (by decide) rfl ?_
  refine a_aload_n dX7_pinsTo_16 rfl ?_
  refine a_dup dX7_pinsTo_17 rfl ?_
  refine a_get fl_X7_82 dX7_pinsTo_18 rfl rfl ?_
  refine a_iconst 1 dX7_pinsTo_21 (by decide) ?_
  refine a_iadd dX7_pinsTo_22 ?_
  rw [nI_1]
  refine a_put fp_X7_82 dX7_pinsTo_23 rfl (Nat.le_of_ble_eq_true rfl) (fun _ => ⟨rfl, rfl⟩) ?_
  refine a_aload_n dX7_pinsTo_26 rfl ?_
  refine a_get fl_X7_33 dX7_pinsTo_27 rfl rfl ?_
  refine a_iload_n dX7_pinsTo_30 rfl ?_
  refine a_iload_n dX7_pinsTo_31 rfl ?_
  refine a_iast dX7_pinsTo_32 rfl (by assumption) ?_
  refine a_aload_n dX7_pinsTo_33 rfl ?_
  refine a_get fl_X7_36 dX7_pinsTo_34 rfl rfl ?_
  refine a_iload_n dX7_pinsTo_37 rfl ?_
  refine a_iload_n dX7_pinsTo_38 rfl ?_
  refine a_iast dX7_pinsTo_39 rfl (by assumption) ?_
  refine a_aload_n dX7_pinsTo_40 rfl ?_
  refine a_get fl_X7_82 dX7_pinsTo_41 rfl rfl ?_
  refine a_iret rfl dX7_pinsTo_44 (by decide) (by decide) ?_
  refine ⟨rfl, ?_⟩
  rw [cl6 (by omega)]
  rfl
theorem c_X7_pinsTo_old (hm : v.2.2.2.2.2.2 ≤ 6) (key s : Int32) (i : Nat) (hf : mPo v key = some i) : aWr l X mX7_pinsTo is19 [.ref 0, .int key, .int s] (aMo f v u k q) (some (.int (nI v.2.2.2.2.2.2))) (aMo f (vPn v (upd v.2.2.2.2.1 i key) (upd v.2.2.2.2.2.1 i s) v.2.2.2.2.2.2) u k q) := by
  refine aMt.of (by decide) rfl (Nat.le_of_ble_eq_true rfl) ?_
  have hpo := c_X7_pinOf (l := l) (X := X) (f := f) (v := v) (u := u) (k := k) (q := q) (by omega) key
  rw [hf, oI_s] at hpo
  have him : i < v.2.2.2.2.2.2 := by have := (aFo_some hf).2.1; omega
  have hi : vp_in (nI i) 6 := in6 (by omega)
  refine a_aload_n dX7_pinsTo_0 rfl ?_
  refine a_iload_n dX7_pinsTo_1 rfl ?_
  refine a_ViR is19 k_X7_pinsTo_161 (hpo) dX7_pinsTo_2 rfl rfl rfl rfl rfl rfl (Nat.le_of_ble_eq_true rfl) ⟨Nat.le_of_ble_eq_true rfl, Nat.le_of_ble_eq_true rfl⟩ ⟨rfl, rfl⟩ ?_
  refine a_istore_n dX7_pinsTo_5 (by decide) rfl ?_
  refine a_iload_n dX7_pinsTo_6 rfl ?_
  refine a_iconst (-1) dX7_pinsTo_7 (by decide) ?_
  refine a_icmp_ne 26 dX7_pinsTo_8 (by decide) (fun _ => ?_) (fun z => absurd z (nI_m1 (by omega)))
  refine a_aload_n dX7_pinsTo_26 rfl ?_
  refine a_get fl_X7_33 dX7_pinsTo_27 rfl rfl ?_
  refine a_iload_n dX7_pinsTo_30 rfl ?_
  refine a_iload_n dX7_pinsTo_31 rfl ?_
  refine a_iast dX7_pinsTo_32 rfl (by assumption) ?_
  refine a_aload_n dX7_pinsTo_33 rfl ?_
  refine a_get fl_X7_36 dX7_pinsTo_34 rfl rfl ?_
  refine a_iload_n dX7_pinsTo_37 rfl ?_
  refine a_iload_n dX7_pinsTo_38 rfl ?_
  refine a_iast dX7_pinsTo_39 rfl (by assumption) ?_
  refine a_aload_n dX7_pinsTo_40 rfl ?_
  refine a_get fl_X7_82 dX7_pinsTo_41 rfl rfl ?_
  refine a_iret rfl dX7_pinsTo_44 (by decide) (by decide) ?_
  refine ⟨rfl, ?_⟩
  rw [cl6 (by omega)]
  rfl
def mPt (v : sT) (key s : Int32) : sT := match mPo v key with
  | some i => vPn v (upd v.2.2.2.2.1 i key) (upd v.2.2.2.2.2.1 i s) v.2.2.2.2.2.2
  | none => vPn v (upd v.2.2.2.2.1 v.2.2.2.2.2.2 key) (upd v.2.2.2.2.2.1 v.2.2.2.2.2.2 s) (v.2.2.2.2.2.2 + 1)
def mNr (v : sT) (key : Int32) : Bool := decide (v.2.2.2.2.2.2 = 6) && (mPo v key).isNone
theorem c_X7_pinsTo (hm : v.2.2.2.2.2.2 ≤ 6) (key s : Int32) (hr : mNr v key = false) : aWr l X mX7_pinsTo is19 [.ref 0, .int key, .int s] (aMo f v u k q) (some (.int (nI (mPt v key s).2.2.2.2.2.2))) (aMo f (mPt v key s) u k q) := by
  unfold mPt
  cases hf : mPo v key with
  | some i => exact c_X7_pinsTo_old hm key s i hf
  | none =>
    refine c_X7_pinsTo_new ?_ key s hf
    simp [mNr, hf] at hr
    omega
theorem c_X7_noRoom (hm : v.2.2.2.2.2.2 ≤ 6) (key : Int32) : aRd l X mX7_noRoom is19 [.ref 0, .int key] (aMo f v u k q) (.int (bI (mNr v key))) := by
  refine aMt.of (by decide) rfl (Nat.le_of_ble_eq_true rfl) ?_
  have hpo := c_X7_pinOf (l := l) (X := X) (f := f) (v := v) (u := u) (k := k) (q := q) hm key
  refine a_aload_n dX7_noRoom_0 rfl ?_
  refine a_get fl_X7_82 dX7_noRoom_1 rfl rfl ?_
  refine a_bipush 6 dX7_noRoom_4 (by decide) ?_
  refine a_icmp_ne 22 dX7_noRoom_6 (by decide) (fun c6 => ?_) (fun c6 => ?_)
  · have : ¬ v.2.2.2.2.2.2 = 6 := fun z => c6 (by rw [z]; rfl)
    refine a_iconst 0 dX7_noRoom_22 (by decide) ?_
    refine a_zret rfl rfl dX7_noRoom_23 (by decide) (by decide) ?_
    exact ⟨by simp [mNr, this, bI], rfl⟩
  · have h6 : v.2.2.2.2.2.2 = 6 := (nI_eq (a := v.2.2.2.2.2.2) (b := 6) (by omega) (by decide)).mp c6
    cases hf : mPo v key with
    | none =>
      rw [hf] at hpo
      refine a_aload_n dX7_noRoom_9 rfl ?_
      refine a_iload_n dX7_noRoom_10 rfl ?_
      refine a_ViR is19 k_X7_noRoom_161 (hpo) dX7_noRoom_11 rfl rfl rfl rfl rfl rfl (Nat.le_of_ble_eq_true rfl) ⟨Nat.le_of_ble_eq_true rfl, Nat.le_of_ble_eq_true rfl⟩ ⟨rfl, rfl⟩ ?_
      refine a_iconst (-1) dX7_noRoom_14 (by decide) ?_
      refine a_icmp_ne 22 dX7_noRoom_15 (by decide) (fun z => absurd rfl z) (fun _ => ?_)
      refine a_iconst 1 dX7_noRoom_18 (by decide) ?_
      refine a_goto 23 dX7_noRoom_19 (by decide) ?_
      refine a_zret rfl rfl dX7_noRoom_23 (by decide) (by decide) ?_
      exact ⟨by simp [mNr, h6, hf, bI], rfl⟩
    | some i =>
      rw [hf, oI_s] at hpo
      have him : i < v.2.2.2.2.2.2 := by have := (aFo_some hf).2.1; omega
      refine a_aload_n dX7_noRoom_9 rfl ?_
      refine a_iload_n dX7_noRoom_10 rfl ?_
      refine a_ViR is19 k_X7_noRoom_161 (hpo) dX7_noRoom_11 rfl rfl rfl rfl rfl rfl (Nat.le_of_ble_eq_true rfl) ⟨Nat.le_of_ble_eq_true rfl, Nat.le_of_ble_eq_true rfl⟩ ⟨rfl, rfl⟩ ?_
      refine a_iconst (-1) dX7_noRoom_14 (by decide) ?_
      refine a_icmp_ne 22 dX7_noRoom_15 (by decide) (fun _ => ?_) (fun z => absurd z (nI_m1 (by omega)))
      refine a_iconst 0 dX7_noRoom_22 (by decide) ?_
      refine a_zret rfl rfl dX7_noRoom_23 (by decide) (by decide) ?_
      exact ⟨by simp [mNr, hf, bI], rfl⟩
theorem c_X7_pin_bad (hm : v.2.2.2.2.2.2 ≤ 6) (key s : Int32) (hg : (gKy key && fHs v.1 s) = false) : aWr l X mX7_pin is19 [.ref 0, .int key, .int s] (aMo f v u k q) (some (.int 0)) (aMo 1 v u k q) := by
  refine aMt.of (by decide) rfl (Nat.le_of_ble_eq_true rfl) ?_
  have hk := c_X7_noKey (l := l) (X := X) key
  have hc := c_X7_noServer (l := l) (X := X) (f := f) (v := v) (u := u) (k := k) (q := q) s
  by_cases h1 : gKy key = true
  · rw [h1] at hk hg
    have h2 : fHs v.1 s = false := by simpa using hg
    rw [h2] at hc
    refine a_aload_n dX7_pin_0 rfl ?_
    refine a_iload_n dX7_pin_1 rfl ?_
    refine a_SiR [] k_X7_pin_170 (hk) dX7_pin_2 rfl rfl rfl rfl rfl (Nat.le_of_ble_eq_true rfl) ⟨Nat.le_of_ble_eq_true rfl, Nat.le_of_ble_eq_true rfl⟩ ⟨rfl, rfl⟩ ?_
    refine a_if_ne 16 dX7_pin_5 (by decide) (fun z => absurd (by decide) z) (fun _ => ?_)
    refine a_aload_n dX7_pin_8 rfl ?_
    refine a_iload_n dX7_pin_9 rfl ?_
    refine a_ViR is19 k_X7_pin_158 (hc) dX7_pin_10 rfl rfl rfl rfl rfl rfl (Nat.le_of_ble_eq_true rfl) ⟨Nat.le_of_ble_eq_true rfl, Nat.le_of_ble_eq_true rfl⟩ ⟨rfl, rfl⟩ ?_
    refine a_if_eq 20 dX7_pin_13 (by decide) (fun z => absurd z (by decide)) (fun _ => ?_)
    refine a_iconst 1 dX7_pin_16 (by decide) ?_
    refine a_goto 21 dX7_pin_17 (by decide) ?_
    refine a_aload_n dX7_pin_21 rfl ?_
    refine a_iload_n dX7_pin_22 rfl ?_
    refine a_ViR is19 k_X7_pin_188 (c_X7_noRoom (f := f) (v := v) (u := u) (k := k) (q := q) hm key) dX7_pin_23 rfl rfl rfl rfl rfl rfl (Nat.le_of_ble_eq_true rfl) ⟨Nat.le_of_ble_eq_true rfl, Nat.le_of_ble_eq_true rfl⟩ ⟨rfl, rfl⟩ ?_
    refine a_ViW is19 (aMo 1 v u k q) k_X7_pin_124 (c_X7_isRefused (f := f) (v := v) (u := u) (k := k) (q := q) true (mNr v key)) dX7_pin_26 rfl rfl rfl rfl rfl rfl (Nat.le_of_ble_eq_true rfl) ⟨Nat.le_of_ble_eq_true rfl, Nat.le_of_ble_eq_true rfl⟩ ⟨rfl, rfl⟩ (Nat.le_of_ble_eq_true rfl) rfl ?_
    refine a_if_eq 36 dX7_pin_29 (by decide) (fun z => absurd z (bI_t _)) (fun _ => ?_)
    refine a_iconst 0 dX7_pin_32 (by decide) ?_
    refine a_goto 42 dX7_pin_33 (by decide) ?_
    refine a_iret rfl dX7_pin_42 (by decide) (by decide) ?_
    exact ⟨rfl, rfl⟩
  · rw [Bool.not_eq_true] at h1
    rw [h1] at hk
    refine a_aload_n dX7_pin_0 rfl ?_
    refine a_iload_n dX7_pin_1 rfl ?_
    refine a_SiR [] k_X7_pin_170 (hk) dX7_pin_2 rfl rfl rfl rfl rfl (Nat.le_of_ble_eq_true rfl) ⟨Nat.le_of_ble_eq_true rfl, Nat.le_of_ble_eq_true rfl⟩ ⟨rfl, rfl⟩ ?_
    refine a_if_ne 16 dX7_pin_5 (by decide) (fun _ => ?_) (fun z => absurd z (by decide))
    refine a_iconst 1 dX7_pin_16 (by decide) ?_
    refine a_goto 21 dX7_pin_17 (by decide) ?_
    refine a_aload_n dX7_pin_21 rfl ?_
    refine a_iload_n dX7_pin_22 rfl ?_
    refine a_ViR is19 k_X7_pin_188 (c_X7_noRoom (f := f) (v := v) (u := u) (k := k) (q := q) hm key) dX7_pin_23 rfl rfl rfl rfl rfl rfl (Nat.le_of_ble_eq_true rfl) ⟨Nat.le_of_ble_eq_true rfl, Nat.le_of_ble_eq_true rfl⟩ ⟨rfl, rfl⟩ ?_
    refine a_ViW is19 (aMo 1 v u k q) k_X7_pin_124 (c_X7_isRefused (f := f) (v := v) (u := u) (k := k) (q := q) true (mNr v key)) dX7_pin_26 rfl rfl rfl rfl rfl rfl (Nat.le_of_ble_eq_true rfl) ⟨Nat.le_of_ble_eq_true rfl, Nat.le_of_ble_eq_true rfl⟩ ⟨rfl, rfl⟩ (Nat.le_of_ble_eq_true rfl) rfl ?_
    refine a_if_eq 36 dX7_pin_29 (by decide) (fun z => absurd z (bI_t _)) (fun _ => ?_)
    refine a_iconst 0 dX7_pin_32 (by decide) ?_
    refine a_goto 42 dX7_pin_33 (by decide) ?_
    refine a_iret rfl dX7_pin_42 (by decide) (by decide) ?_
    exact ⟨rfl, rfl⟩
theorem c_X7_pin_full (hm : v.2.2.2.2.2.2 ≤ 6) (key s : Int32) (hg : (gKy key && fHs v.1 s) = true) (hr : mNr v key = true) : aWr l X mX7_pin is19 [.ref 0, .int key, .int s] (aMo f v u k q) (some (.int 0)) (aMo 2 v u k q) := by
  refine aMt.of (by decide) rfl (Nat.le_of_ble_eq_true rfl) ?_
  rw [Bool.and_eq_true] at hg
  have hk := c_X7_noKey (l := l) (X := X) key
  have hc := c_X7_noServer (l := l) (X := X) (f := f) (v := v) (u := u) (k := k) (q := q) s
  have hn := c_X7_noRoom (l := l) (X := X) (f := f) (v := v) (u := u) (k := k) (q := q) hm key
  rw [hg.1] at hk
  rw [hg.2] at hc
  rw [hr] at hn
  refine a_aload_n dX7_pin_0 rfl ?_
  refine a_iload_n dX7_pin_1 rfl ?_
  refine a_SiR [] k_X7_pin_170 (hk) dX7_pin_2 rfl rfl rfl rfl rfl (Nat.le_of_ble_eq_true rfl) ⟨Nat.le_of_ble_eq_true rfl, Nat.le_of_ble_eq_true rfl⟩ ⟨rfl, rfl⟩ ?_
  refine a_if_ne 16 dX7_pin_5 (by decide) (fun z => absurd (by decide) z) (fun _ => ?_)
  refine a_aload_n dX7_pin_8 rfl ?_
  refine a_iload_n dX7_pin_9 rfl ?_
  refine a_ViR is19 k_X7_pin_158 (hc) dX7_pin_10 rfl rfl rfl rfl rfl rfl (Nat.le_of_ble_eq_true rfl) ⟨Nat.le_of_ble_eq_true rfl, Nat.le_of_ble_eq_true rfl⟩ ⟨rfl, rfl⟩ ?_
  refine a_if_eq 20 dX7_pin_13 (by decide) (fun _ => ?_) (fun z => absurd (by decide) z)
  refine a_iconst 0 dX7_pin_20 (by decide) ?_
  refine a_aload_n dX7_pin_21 rfl ?_
  refine a_iload_n dX7_pin_22 rfl ?_
  refine a_ViR is19 k_X7_pin_188 (hn) dX7_pin_23 rfl rfl rfl rfl rfl rfl (Nat.le_of_ble_eq_true rfl) ⟨Nat.le_of_ble_eq_true rfl, Nat.le_of_ble_eq_true rfl⟩ ⟨rfl, rfl⟩ ?_
  refine a_ViW is19 (aMo 2 v u k q) k_X7_pin_124 (c_X7_isRefused (f := f) (v := v) (u := u) (k := k) (q := q) false true) dX7_pin_26 rfl rfl rfl rfl rfl rfl (Nat.le_of_ble_eq_true rfl) ⟨Nat.le_of_ble_eq_true rfl, Nat.le_of_ble_eq_true rfl⟩ ⟨rfl, rfl⟩ (Nat.le_of_ble_eq_true rfl) rfl ?_
  refine a_if_eq 36 dX7_pin_29 (by decide) (fun z => absurd z (by decide)) (fun _ => ?_)
  refine a_iconst 0 dX7_pin_32 (by decide) ?_
  refine a_goto 42 dX7_pin_33 (by decide) ?_
  refine a_iret rfl dX7_pin_42 (by decide) (by decide) ?_
  exact ⟨rfl, rfl⟩
theorem c_X7_pin_ok (hm : v.2.2.2.2.2.2 ≤ 6) (key s : Int32) (hg : (gKy key && fHs v.1 s) = true) (hr : mNr v key = false) : aWr l X mX7_pin is19 [.ref 0, .int key, .int s] (aMo f v u k q) (some (.int (nI (mPt v key s).2.2.2.2.2.2))) (aMo 0 (mPt v key s) u k q) := by
  refine aMt.of (by decide) rfl (Nat.le_of_ble_eq_true rfl) ?_
  rw [Bool.and_eq_true] at hg
  have hk := c_X7_noKey (l := l) (X := X) key
  have hc := c_X7_noServer (l := l) (X := X) (f := f) (v := v) (u := u) (k := k) (q := q) s
  have hn := c_X7_noRoom (l := l) (X := X) (f := f) (v := v) (u := u) (k := k) (q := q) hm key
  rw [hg.1] at hk
  rw [hg.2] at hc
  rw [hr] at hn
  refine a_aload_n dX7_pin_0 rfl ?_
  refine a_iload_n dX7_pin_1 rfl ?_
  refine a_SiR [] k_X7_pin_170 (hk) dX7_pin_2 rfl rfl rfl rfl rfl (Nat.le_of_ble_eq_true rfl) ⟨Nat.le_of_ble_eq_true rfl, Nat.le_of_ble_eq_true rfl⟩ ⟨rfl, rfl⟩ ?_
  refine a_if_ne 16 dX7_pin_5 (by decide) (fun z => absurd (by decide) z) (fun _ => ?_)
  refine a_aload_n dX7_pin_8 rfl ?_
  refine a_iload_n dX7_pin_9 rfl ?_
  refine a_ViR is19 k_X7_pin_158 (hc) dX7_pin_10 rfl rfl rfl rfl rfl rfl (Nat.le_of_ble_eq_true rfl) ⟨Nat.le_of_ble_eq_true rfl, Nat.le_of_ble_eq_true rfl⟩ ⟨rfl, rfl⟩ ?_
  refine a_if_eq 20 dX7_pin_13 (by decide) (fun _ => ?_) (fun z => absurd (by decide) z)
  refine a_iconst 0 dX7_pin_20 (by decide) ?_
  refine a_aload_n dX7_pin_21 rfl ?_
  refine a_iload_n dX7_pin_22 rfl ?_
  refine a_ViR is19 k_X7_pin_188 (hn) dX7_pin_23 rfl rfl rfl rfl rfl rfl (Nat.le_of_ble_eq_true rfl) ⟨Nat.le_of_ble_eq_true rfl, Nat.le_of_ble_eq_true rfl⟩ ⟨rfl, rfl⟩ ?_
  refine a_ViW is19 (aMo 0 v u k q) k_X7_pin_124 (c_X7_isRefused (f := f) (v := v) (u := u) (k := k) (q := q) false false) dX7_pin_26 rfl rfl rfl rfl rfl rfl (Nat.le_of_ble_eq_true rfl) ⟨Nat.le_of_ble_eq_true rfl, Nat.le_of_ble_eq_true rfl⟩ ⟨rfl, rfl⟩ (Nat.le_of_ble_eq_true rfl) rfl ?_
  refine a_if_eq 36 dX7_pin_29 (by decide) (fun _ => ?_) (fun z => absurd (by decide) z)
  refine a_aload_n dX7_pin_36 rfl ?_
  refine a_iload_n dX7_pin_37 rfl ?_
  refine a_iload_n dX7_pin_38 rfl ?_
  refine a_ViW is19 (aMo 0 (mPt v key s) u k q) k_X7_pin_191 (c_X7_pinsTo (f := 0) (v := v) (u := u) (k := k) (q := q) hm key s hr) dX7_pin_39 rfl rfl rfl rfl rfl rfl (Nat.le_of_ble_eq_true rfl) ⟨Nat.le_of_ble_eq_true rfl, Nat.le_of_ble_eq_true rfl⟩ ⟨rfl, rfl⟩ (Nat.le_of_ble_eq_true rfl) rfl ?_
  refine a_iret rfl dX7_pin_42 (by decide) (by decide) ?_
  exact ⟨rfl, rfl⟩
theorem c_X7_unpin_bad (key : Int32) (hg : gKy key = false) : aWr l X mX7_unpin is19 [.ref 0, .int key] (aMo f v u k q) (some (.int 0)) (aMo 1 v u k q) := by
  refine aMt.of (by decide) rfl (Nat.le_of_ble_eq_true rfl) ?_
  have hk := c_X7_noKey (l := l) (X := X) key
  rw [hg] at hk
  refine a_aload_n dX7_unpin_0 rfl ?_
  refine a_iload_n dX7_unpin_1 rfl ?_
  refine a_SiR [] k_X7_unpin_170 (hk) dX7_unpin_2 rfl rfl rfl rfl rfl (Nat.le_of_ble_eq_true rfl) ⟨Nat.le_of_ble_eq_true rfl, Nat.le_of_ble_eq_true rfl⟩ ⟨rfl, rfl⟩ ?_
  refine a_iconst 0 dX7_unpin_5 (by decide) ?_
  refine a_ViW is19 (aMo 1 v u k q) k_X7_unpin_124 (c_X7_isRefused (f := f) (v := v) (u := u) (k := k) (q := q) true false) dX7_unpin_6 rfl rfl rfl rfl rfl rfl (Nat.le_of_ble_eq_true rfl) ⟨Nat.le_of_ble_eq_true rfl, Nat.le_of_ble_eq_true rfl⟩ ⟨rfl, rfl⟩ (Nat.le_of_ble_eq_true rfl) rfl ?_
  refine a_if_eq 14 dX7_unpin_9 (by decide) (fun z => absurd z (by decide)) (fun _ => ?_)
  refine a_iconst 0 dX7_unpin_12 (by decide) ?_
  refine a_iret rfl dX7_unpin_13 (by decide) (by decide) ?_
  exact ⟨rfl, rfl⟩
theorem c_X7_unpin_no (hm : v.2.2.2.2.2.2 ≤ 6) (key : Int32) (hg : gKy key = true) (hf : mPo v key = none) : aWr l X mX7_unpin is19 [.ref 0, .int key] (aMo f v u k q) (some (.int (-1))) (aMo 0 v u k q) := by
  refine aMt.of (by decide) rfl (Nat.le_of_ble_eq_true rfl) ?_
  have hk := c_X7_noKey (l := l) (X := X) key
  rw [hg] at hk
  have hpo := c_X7_pinOf (l := l) (X := X) (f := 0) (v := v) (u := u) (k := k) (q := q) hm key
  rw [hf] at hpo
  refine a_aload_n dX7_unpin_0 rfl ?_
  refine a_iload_n dX7_unpin_1 rfl ?_
  refine a_SiR [] k_X7_unpin_170 (hk) dX7_unpin_2 rfl rfl rfl rfl rfl (Nat.le_of_ble_eq_true rfl) ⟨Nat.le_of_ble_eq_true rfl, Nat.le_of_ble_eq_true rfl⟩ ⟨rfl, rfl⟩ ?_
  refine a_iconst 0 dX7_unpin_5 (by decide) ?_
  refine a_ViW is19 (aMo 0 v u k q) k_X7_unpin_124 (c_X7_isRefused (f := f) (v := v) (u := u) (k := k) (q := q) false false) dX7_unpin_6 rfl rfl rfl rfl rfl rfl (Nat.le_of_ble_eq_true rfl) ⟨Nat.le_of_ble_eq_true rfl, Nat.le_of_ble_eq_true rfl⟩ ⟨rfl, rfl⟩ (Nat.le_of_ble_eq_true rfl) rfl ?_
  refine a_if_eq 14 dX7_unpin_9 (by decide) (fun _ => ?_) (fun z => absurd (by decide) z)
  refine a_aload_n dX7_unpin_14 rfl ?_
  refine a_iload_n dX7_unpin_15 rfl ?_
  refine a_ViR is19 k_X7_unpin_161 (hpo) dX7_unpin_16 rfl rfl rfl rfl rfl rfl (Nat.le_of_ble_eq_true rfl) ⟨Nat.le_of_ble_eq_true rfl, Nat.le_of_ble_eq_true rfl⟩ ⟨rfl, rfl⟩ ?_
  refine a_istore_n dX7_unpin_19 (by decide) rfl ?_
  refine a_iload_n dX7_unpin_20 rfl ?_
  refine a_iconst (-1) dX7_unpin_21 (by decide) ?_
  refine a_icmp_ne 27 dX7_unpin_22 (by decide) (fun z => absurd rfl z) (fun _ => ?_)
  refine a_iconst (-1) dX7_unpin_25 (by decide) ?_
  refine a_iret rfl dX7_unpin_26 (by decide) (by decide) ?_
  exact ⟨rfl, rfl⟩
theorem c_X7_unpin_ok (hm : v.2.2.2.2.2.2 ≤ 6) (key : Int32) (hg : gKy key = true) (i : Nat) (hf : mPo v key = some i) : aWr l X mX7_unpin is19 [.ref 0, .int key] (aMo f v u k q) (some (.int (v.2.2.2.2.2.1 i))) (aMo 0 (vPn v (upd v.2.2.2.2.1 i (v.2.2.2.2.1 (v.2.2.2.2.2.2 - 1))) (upd v.2.2.2.2.2.1 i (v.2.2.2.2.2.1 (v.2.2.2.2.2.2 - 1))) (v.2.2.2.2.2.2 - 1)) u k q) := by
  refine aMt.of (by decide) rfl (Nat.le_of_ble_eq_true rfl) ?_
  have hk := c_X7_noKey (l := l) (X := X) key
  rw [hg] at hk
  have hpo := c_X7_pinOf (l := l) (X := X) (f := 0) (v := v) (u := u) (k := k) (q := q) hm key
  rw [hf, oI_s] at hpo
  have him : i < v.2.2.2.2.2.2 := by have := (aFo_some hf).2.1; omega
  have hi : vp_in (nI i) 6 := in6 (by omega)
  have hi2 : vp_in (nI (v.2.2.2.2.2.2 - 1)) 6 := in6 (by omega)
  have hpr : nI v.2.2.2.2.2.2 - 1 = nI (v.2.2.2.2.2.2 - 1) := by
    obtain ⟨z, hz⟩ : ∃ z, v.2.2.2.2.2.2 = z + 1 := ⟨v.2.2.2.2.2.2 - 1, by omega⟩
    rw [hz]; exact nI_pred z
  refine a_aload_n dX7_unpin_0 rfl ?_
  refine a_iload_n dX7_unpin_1 rfl ?_
  refine a_SiR [] k_X7_unpin_170 (hk) dX7_unpin_2 rfl rfl rfl rfl rfl (Nat.le_of_ble_eq_true rfl) ⟨Nat.le_of_ble_eq_true rfl, Nat.le_of_ble_eq_true rfl⟩ ⟨rfl, rfl⟩ ?_
  refine a_iconst 0 dX7_unpin_5 (by decide) ?_
  refine a_ViW is19 (aMo 0 v u k q) k_X7_unpin_124 (c_X7_isRefused (f := f) (v := v) (u := u) (k := k) (q := q) false false) dX7_unpin_6 rfl rfl rfl rfl rfl rfl (Nat.le_of_ble_eq_true rfl) ⟨Nat.le_of_ble_eq_true rfl, Nat.le_of_ble_eq_true rfl⟩ ⟨rfl, rfl⟩ (Nat.le_of_ble_eq_true rfl) rfl ?_
  refine a_if_eq 14 dX7_unpin_9 (by decide) (fun _ => ?_) (fun z => absurd (by decide) z)
  refine a_aload_n dX7_unpin_14 rfl ?_
  refine a_iload_n dX7_unpin_15 rfl ?_
  refine a_ViR is19 k_X7_unpin_161 (hpo) dX7_unpin_16 rfl rfl rfl rfl rfl rfl (Nat.le_of_ble_eq_true rfl) ⟨Nat.le_of_ble_eq_true rfl, Nat.le_of_ble_eq_true rfl⟩ ⟨rfl, rfl⟩ ?_
  refine a_istore_n dX7_unpin_19 (by decide) rfl ?_
  refine a_iload_n dX7_unpin_20 rfl ?_
  refine a_iconst (-1) dX7_unpin_21 (by decide) ?_
  refine a_icmp_ne 27 dX7_unpin_22 (by decide) (fun _ => ?_) (fun z => absurd z (nI_m1 (by omega)))
  refine a_aload_n dX7_unpin_27 rfl ?_
  refine a_get fl_X7_36 dX7_unpin_28 rfl rfl ?_
  refine a_iload_n dX7_unpin_31 rfl ?_
  refine a_iald dX7_unpin_32 rfl (by assumption) ?_
  rw [cl6 (show i < 6 by omega)]
  refine a_istore_n dX7_unpin_33 (by decide) rfl ?_
  refine a_aload_n dX7_unpin_34 rfl ?_
  refine a_dup dX7_unpin_35 rfl ?_
  refine a_get fl_X7_82 dX7_unpin_36 rfl rfl ?_
  refine a_iconst 1 dX7_unpin_39 (by decide) ?_
  refine a_isub dX7_unpin_40 ?_
  rw [hpr]
  refine a_put fp_X7_82 dX7_unpin_41 rfl (Nat.le_of_ble_eq_true rfl) (fun _ => ⟨rfl, rfl⟩) ?_
  refine a_aload_n dX7_unpin_44 rfl ?_
  refine a_get fl_X7_33 dX7_unpin_45 rfl rfl ?_
  refine a_iload_n dX7_unpin_48 rfl ?_
  refine a_aload_n dX7_unpin_49 rfl ?_
  refine a_get fl_X7_33 dX7_unpin_50 rfl rfl ?_
  refine a_aload_n dX7_unpin_53 rfl ?_
  refine a_get fl_X7_82 dX7_unpin_54 rfl rfl ?_
  refine a_iald dX7_unpin_57 rfl (by assumption) ?_
  refine a_iast dX7_unpin_58 rfl (by assumption) ?_
  refine a_aload_n dX7_unpin_59 rfl ?_
  refine a_get fl_X7_36 dX7_unpin_60 rfl rfl ?_
  refine a_iload_n dX7_unpin_63 rfl ?_
  refine a_aload_n dX7_unpin_64 rfl ?_
  refine a_get fl_X7_36 dX7_unpin_65 rfl rfl ?_
  refine a_aload_n dX7_unpin_68 rfl ?_
  refine a_get fl_X7_82 dX7_unpin_69 rfl rfl ?_
  refine a_iald dX7_unpin_72 rfl (by assumption) ?_
  refine a_iast dX7_unpin_73 rfl (by assumption) ?_
  refine a_iload_n dX7_unpin_74 rfl ?_
  refine a_iret rfl dX7_unpin_75 (by decide) (by decide) ?_
  refine ⟨rfl, ?_⟩
  rw [cl6 (show i < 6 by omega), cl6 (show v.2.2.2.2.2.2 - 1 < 6 by omega)]
  rfl
def mAh (k : kT) (i : Nat) : Int32 := aLp (fun j c => if tLb k.1.1 k.1.2.1 j i then c + 1 else c) k.2 0 0
def mLi (k : kT) (p : Int32) : Option Nat := aFo (fun i => decide (mAh k i = p)) k.2 0
theorem c_X7_listed (hm : k.2 ≤ 8) (p : Int32) : aRd l X mX7_listed is19 [.ref 0, .int p] (aMo f v u k q) (.int (oI (mLi k p))) := by
  refine aMt.of (by decide) rfl (Nat.le_of_ble_eq_true rfl) ?_
  generalize hr : mLi k p = r
  refine a_iconst 0 dX7_listed_0 (by decide) ?_
  refine a_istore_n dX7_listed_1 (by decide) rfl ?_
  have lp : ∀ (n s : Nat), s + n = k.2 → aFo (fun i => decide (mAh k i = p)) n s = r → aJ l X mX7_listed (aEd X mX7_listed is19 (fun o h' => o = .inl (some (.int (oI r))) ∧ h' = aMo f v u k q)) 0 0 2 [.ref 0, .int p, .int (nI s), .null, .null] [] (aMo f v u k q) := by
    intro n
    induction n with
    | zero =>
      intro s hs hq
      obtain rfl : s = k.2 := by omega
      refine a_iload_n dX7_listed_2 rfl ?_
      refine a_aload_n dX7_listed_3 rfl ?_
      refine a_get fl_X7_85 dX7_listed_4 rfl rfl ?_
      refine a_icmp_ge 101 dX7_listed_7 (by decide) (fun _ => ?_) (fun z => absurd (nI_le (Nat.le_refl _) (by omega)) z)
      refine a_iconst (-1) dX7_listed_101 (by decide) ?_
      refine a_iret rfl dX7_listed_102 (by decide) (by decide) ?_
      exact ⟨by rw [← hq]; rfl, rfl⟩
    | succ n ih =>
      intro s hs hq
      have hi : vp_in (nI s) 8 := in8 (by omega)
      refine a_iload_n dX7_listed_2 rfl ?_
      refine a_aload_n dX7_listed_3 rfl ?_
      refine a_get fl_X7_85 dX7_listed_4 rfl rfl ?_
      refine a_icmp_ge 101 dX7_listed_7 (by decide) (fun z => absurd z (nI_ge (by omega) (by omega))) (fun _ => ?_)
      refine a_iconst 0 dX7_listed_10 (by decide) ?_
      refine a_istore_n dX7_listed_11 (by decide) rfl ?_
      refine a_iconst 0 dX7_listed_12 (by decide) ?_
      refine a_istore dX7_listed_13 (by decide) rfl ?_
      have inner : ∀ (m t : Nat) (a : Int32), t + m = k.2 → aLp (fun j c => if tLb k.1.1 k.1.2.1 j s then c + 1 else c) m t a = mAh k s → aJ l X mX7_listed (aEd X mX7_listed is19 (fun o h' => o = .inl (some (.int (oI r))) ∧ h' = aMo f v u k q)) 0 0 15 [.ref 0, .int p, .int (nI s), .int a, .int (nI t)] [] (aMo f v u k q) := by
        intro m
        induction m with
        | zero =>
          intro t a ht ha
          obtain rfl : t = k.2 := by omega
          have ha' : a = mAh k s := ha
          rw [ha']
          refine a_iload dX7_listed_15 rfl ?_
          refine a_aload_n dX7_listed_17 rfl ?_
          refine a_get fl_X7_85 dX7_listed_18 rfl rfl ?_
          refine a_icmp_ge 88 dX7_listed_21 (by decide) (fun _ => ?_) (fun z => absurd (nI_le (Nat.le_refl _) (by omega)) z)
          refine a_iload_n dX7_listed_88 rfl ?_
          refine a_iload_n dX7_listed_89 rfl ?_
          refine a_icmp_ne 95 dX7_listed_90 (by decide) (fun c90 => ?_) (fun c90 => ?_)
          · refine a_iinc (nI (s + 1)) dX7_listed_95 rfl (nI_1 _) (by decide) rfl ?_
            refine a_goto 2 dX7_listed_98 (by decide) ?_
            refine a_drop 3 ?_
            refine a_drop 4 ?_
            exact ih (s + 1) (by omega) (by rw [← hq]; simp [aFo, c90])
          · refine a_iload_n dX7_listed_93 rfl ?_
            refine a_iret rfl dX7_listed_94 (by decide) (by decide) ?_
            exact ⟨by rw [← hq]; simp [aFo, c90, oI], rfl⟩
        | succ m ihm =>
          intro t a ht ha
          have hi2 : vp_in (nI t) 8 := in8 (by omega)
          have nx : ∀ (b : Int32), (if tLb k.1.1 k.1.2.1 t s then a + 1 else a) = b → aJ l X mX7_listed (aEd X mX7_listed is19 (fun o h' => o = .inl (some (.int (oI r))) ∧ h' = aMo f v u k q)) 0 0 81 [.ref 0, .int p, .int (nI s), .int a, .int (nI t)] [.int b] (aMo f v u k q) := by
            intro b hb
            refine a_istore_n dX7_listed_81 (by decide) rfl ?_
            refine a_iinc (nI (t + 1)) dX7_listed_82 rfl (nI_1 _) (by decide) rfl ?_
            refine a_goto 15 dX7_listed_85 (by decide) ?_
            exact ihm (t + 1) b (by omega) (by rw [← ha, ← hb]; rfl)
          refine a_iload dX7_listed_15 rfl ?_
          refine a_aload_n dX7_listed_17 rfl ?_
          refine a_get fl_X7_85 dX7_listed_18 rfl rfl ?_
          refine a_icmp_ge 88 dX7_listed_21 (by decide) (fun z => absurd z (nI_ge (by omega) (by omega))) (fun _ => ?_)
          refine a_iload_n dX7_listed_24 rfl ?_
          refine a_aload_n dX7_listed_25 rfl ?_
          refine a_get fl_X7_42 dX7_listed_26 rfl rfl ?_
          refine a_iload dX7_listed_29 rfl ?_
          refine a_lald dX7_listed_31 rfl (by assumption) ?_
          refine a_aload_n dX7_listed_32 rfl ?_
          refine a_get fl_X7_42 dX7_listed_33 rfl rfl ?_
          refine a_iload_n dX7_listed_36 rfl ?_
          refine a_lald dX7_listed_37 rfl (by assumption) ?_
          refine a_lcmp dX7_listed_38 ?_
          refine a_if_gt 75 dX7_listed_39 (by decide) (fun c39 => ?_) (fun c39 => ?_)
          · rw [cl8 (show s < 8 by omega), cl8 (show t < 8 by omega), lg_cmp_gt] at c39
            refine a_iconst 1 dX7_listed_75 (by decide) ?_
            refine a_goto 80 dX7_listed_76 (by decide) ?_
            refine a_iadd dX7_listed_80 ?_
            exact nx (a + 1) (by simp [tLb, c39])
          · rw [cl8 (show s < 8 by omega), cl8 (show t < 8 by omega), lg_cmp_gt] at c39
            refine a_aload_n dX7_listed_42 rfl ?_
            refine a_get fl_X7_42 dX7_listed_43 rfl rfl ?_
            refine a_iload dX7_listed_46 rfl ?_
            refine a_lald dX7_listed_48 rfl (by assumption) ?_
            refine a_aload_n dX7_listed_49 rfl ?_
            refine a_get fl_X7_42 dX7_listed_50 rfl rfl ?_
            refine a_iload_n dX7_listed_53 rfl ?_
            refine a_lald dX7_listed_54 rfl (by assumption) ?_
            refine a_lcmp dX7_listed_55 ?_
            refine a_if_ne 79 dX7_listed_56 (by decide) (fun c56 => ?_) (fun c56 => ?_)
            · rw [cl8 (show s < 8 by omega), cl8 (show t < 8 by omega), lg_cmp_eq] at c56
              refine a_iconst 0 dX7_listed_79 (by decide) ?_
              refine a_iadd dX7_listed_80 ?_
              exact nx (a + 0) (by simp [tLb, c39, c56])
            · rw [cl8 (show s < 8 by omega), cl8 (show t < 8 by omega), lg_cmp_eq] at c56
              refine a_aload_n dX7_listed_59 rfl ?_
              refine a_get fl_X7_39 dX7_listed_60 rfl rfl ?_
              refine a_iload dX7_listed_63 rfl ?_
              refine a_iald dX7_listed_65 rfl (by assumption) ?_
              refine a_aload_n dX7_listed_66 rfl ?_
              refine a_get fl_X7_39 dX7_listed_67 rfl rfl ?_
              refine a_iload_n dX7_listed_70 rfl ?_
              refine a_iald dX7_listed_71 rfl (by assumption) ?_
              refine a_icmp_ge 79 dX7_listed_72 (by decide) (fun c72 => ?_) (fun c72 => ?_)
              · rw [cl8 (show s < 8 by omega), cl8 (show t < 8 by omega)] at c72
                refine a_iconst 0 dX7_listed_79 (by decide) ?_
                refine a_iadd dX7_listed_80 ?_
                exact nx (a + 0) (by simp [tLb, c39, c72])
              · rw [cl8 (show s < 8 by omega), cl8 (show t < 8 by omega)] at c72
                refine a_iconst 1 dX7_listed_75 (by decide) ?_
                refine a_goto 80 dX7_listed_76 (by decide) ?_
                refine a_iadd dX7_listed_80 ?_
                exact nx (a + 1) (by simp [tLb, c56, c72])
      exact inner k.2 0 0 (by omega) rfl
  exact lp k.2 0 (by omega) hr
theorem mIn_sl0 {M : Nat} (hM : M < 2 ^ 31) (s : Int32) : mIn s.toInt64 0 (nI M - 1).toInt64 = sSl M s := by
  rcases Nat.eq_zero_or_pos M with z | z
  · subst z
    refine (mIn_0 s).trans ?_
    unfold sSl
    have : (¬ nI 0 ≤ s) ↔ s < 0 := i32_nle _ _
    simp only [this]
    by_cases h : s < 0
    · simp [h]
    · simp [h]
  · exact mIn_sl z hM s
theorem c_X7_noEntry (hm : k.2 ≤ 8) (e : Int32) : aRd l X mX7_noEntry is19 [.ref 0, .int e] (aMo f v u k q) (.int (bI (!(sSl k.2 e)))) := by
  refine aMt.of (by decide) rfl (Nat.le_of_ble_eq_true rfl) ?_
  refine a_iload_n dX7_noEntry_0 rfl ?_
  refine a_i2l dX7_noEntry_1 ?_
  refine a_lconst 0 dX7_noEntry_2 (by decide) ?_
  refine a_aload_n dX7_noEntry_3 rfl ?_
  refine a_get fl_X7_85 dX7_noEntry_4 rfl rfl ?_
  refine a_iconst 1 dX7_noEntry_7 (by decide) ?_
  refine a_isub dX7_noEntry_8 ?_
  refine a_i2l dX7_noEntry_9 ?_
  refine a_SiR [] k_X7_noEntry_93 (c_X7_in e.toInt64 0 (nI k.2 - 1).toInt64) dX7_noEntry_10 rfl rfl rfl rfl rfl (Nat.le_of_ble_eq_true rfl) ⟨Nat.le_of_ble_eq_true rfl, Nat.le_of_ble_eq_true rfl⟩ ⟨rfl, rfl⟩ ?_
  rw [mIn_sl0 (by omega)]
  refine a_if_ne 20 dX7_noEntry_13 (by decide) (fun c13 => ?_) (fun c13 => ?_)
  · refine a_iconst 0 dX7_noEntry_20 (by decide) ?_
    refine a_zret rfl rfl dX7_noEntry_21 (by decide) (by decide) ?_
    exact ⟨by simp [bI_1 c13, bI], rfl⟩
  · refine a_iconst 1 dX7_noEntry_16 (by decide) ?_
    refine a_goto 21 dX7_noEntry_17 (by decide) ?_
    refine a_zret rfl rfl dX7_noEntry_21 (by decide) (by decide) ?_
    exact ⟨by simp [bI_0 c13, bI], rfl⟩
theorem c_X7_hotKey_bad (hm : k.2 ≤ 8) (e : Int32) (hg : sSl k.2 e = false) : aWr l X mX7_hotKey is19 [.ref 0, .int e] (aMo f v u k q) (some (.int 0)) (aMo 1 v u k q) := by
  refine aMt.of (by decide) rfl (Nat.le_of_ble_eq_true rfl) ?_
  have hc := c_X7_noEntry (l := l) (X := X) (f := f) (v := v) (u := u) (k := k) (q := q) hm e
  rw [hg] at hc
  refine a_aload_n dX7_hotKey_0 rfl ?_
  refine a_aload_n dX7_hotKey_1 rfl ?_
  refine a_iload_n dX7_hotKey_2 rfl ?_
  refine a_ViR is19 k_X7_hotKey_197 (hc) dX7_hotKey_3 rfl rfl rfl rfl rfl rfl (Nat.le_of_ble_eq_true rfl) ⟨Nat.le_of_ble_eq_true rfl, Nat.le_of_ble_eq_true rfl⟩ ⟨rfl, rfl⟩ ?_
  refine a_iconst 0 dX7_hotKey_6 (by decide) ?_
  refine a_ViW is19 (aMo 1 v u k q) k_X7_hotKey_124 (c_X7_isRefused (f := f) (v := v) (u := u) (k := k) (q := q) true false) dX7_hotKey_7 rfl rfl rfl rfl rfl rfl (Nat.le_of_ble_eq_true rfl) ⟨Nat.le_of_ble_eq_true rfl, Nat.le_of_ble_eq_true rfl⟩ ⟨rfl, rfl⟩ (Nat.le_of_ble_eq_true rfl) rfl ?_
  refine a_if_eq 17 dX7_hotKey_10 (by decide) (fun z => absurd z (by decide)) (fun _ => ?_)
  refine a_iconst 0 dX7_hotKey_13 (by decide) ?_
  refine a_goto 27 dX7_hotKey_14 (by decide) ?_
  refine a_iret rfl dX7_hotKey_27 (by decide) (by decide) ?_
  exact ⟨rfl, rfl⟩
theorem c_X7_hotKey_ok (hm : k.2 ≤ 8) (e : Int32) (hg : sSl k.2 e = true) (i : Nat) (hf : mLi k e = some i) : aWr l X mX7_hotKey is19 [.ref 0, .int e] (aMo f v u k q) (some (.int (k.1.1 i))) (aMo 0 v u k q) := by
  refine aMt.of (by decide) rfl (Nat.le_of_ble_eq_true rfl) ?_
  have hc := c_X7_noEntry (l := l) (X := X) (f := f) (v := v) (u := u) (k := k) (q := q) hm e
  rw [hg] at hc
  have hl := c_X7_listed (l := l) (X := X) (f := 0) (v := v) (u := u) (k := k) (q := q) hm e
  rw [hf, oI_s] at hl
  have him : i < k.2 := by have := (aFo_some hf).2.1; omega
  have hi : vp_in (nI i) 8 := in8 (by omega)
  refine a_aload_n dX7_hotKey_0 rfl ?_
  refine a_aload_n dX7_hotKey_1 rfl ?_
  refine a_iload_n dX7_hotKey_2 rfl ?_
  refine a_ViR is19 k_X7_hotKey_197 (hc) dX7_hotKey_3 rfl rfl rfl rfl rfl rfl (Nat.le_of_ble_eq_true rfl) ⟨Nat.le_of_ble_eq_true rfl, Nat.le_of_ble_eq_true rfl⟩ ⟨rfl, rfl⟩ ?_
  refine a_iconst 0 dX7_hotKey_6 (by decide) ?_
  refine a_ViW is19 (aMo 0 v u k q) k_X7_hotKey_124 (c_X7_isRefused (f := f) (v := v) (u := u) (k := k) (q := q) false false) dX7_hotKey_7 rfl rfl rfl rfl rfl rfl (Nat.le_of_ble_eq_true rfl) ⟨Nat.le_of_ble_eq_true rfl, Nat.le_of_ble_eq_true rfl⟩ ⟨rfl, rfl⟩ (Nat.le_of_ble_eq_true rfl) rfl ?_
  refine a_if_eq 17 dX7_hotKey_10 (by decide) (fun _ => ?_) (fun z => absurd (by decide) z)
  refine a_aload_n dX7_hotKey_17 rfl ?_
  refine a_get fl_X7_39 dX7_hotKey_18 rfl rfl ?_
  refine a_aload_n dX7_hotKey_21 rfl ?_
  refine a_iload_n dX7_hotKey_22 rfl ?_
  refine a_ViR is19 k_X7_hotKey_194 (hl) dX7_hotKey_23 rfl rfl rfl rfl rfl rfl (Nat.le_of_ble_eq_true rfl) ⟨Nat.le_of_ble_eq_true rfl, Nat.le_of_ble_eq_true rfl⟩ ⟨rfl, rfl⟩ ?_
  refine a_iald dX7_hotKey_26 rfl hi ?_
  rw [cl8 (by omega)]
  refine a_iret rfl dX7_hotKey_27 (by decide) (by decide) ?_
  exact ⟨rfl, rfl⟩
theorem c_X7_hotCount_bad (hm : k.2 ≤ 8) (e : Int32) (hg : sSl k.2 e = false) : aWr l X mX7_hotCount is19 [.ref 0, .int e] (aMo f v u k q) (some (.long 0)) (aMo 1 v u k q) := by
  refine aMt.of (by decide) rfl (Nat.le_of_ble_eq_true rfl) ?_
  have hc := c_X7_noEntry (l := l) (X := X) (f := f) (v := v) (u := u) (k := k) (q := q) hm e
  rw [hg] at hc
  refine a_aload_n dX7_hotCount_0 rfl ?_
  refine a_aload_n dX7_hotCount_1 rfl ?_
  refine a_iload_n dX7_hotCount_2 rfl ?_
  refine a_ViR is19 k_X7_hotCount_197 (hc) dX7_hotCount_3 rfl rfl rfl rfl rfl rfl (Nat.le_of_ble_eq_true rfl) ⟨Nat.le_of_ble_eq_true rfl, Nat.le_of_ble_eq_true rfl⟩ ⟨rfl, rfl⟩ ?_
  refine a_iconst 0 dX7_hotCount_6 (by decide) ?_
  refine a_ViW is19 (aMo 1 v u k q) k_X7_hotCount_124 (c_X7_isRefused (f := f) (v := v) (u := u) (k := k) (q := q) true false) dX7_hotCount_7 rfl rfl rfl rfl rfl rfl (Nat.le_of_ble_eq_true rfl) ⟨Nat.le_of_ble_eq_true rfl, Nat.le_of_ble_eq_true rfl⟩ ⟨rfl, rfl⟩ (Nat.le_of_ble_eq_true rfl) rfl ?_
  refine a_if_eq 17 dX7_hotCount_10 (by decide) (fun z => absurd z (by decide)) (fun _ => ?_)
  refine a_lconst 0 dX7_hotCount_13 (by decide) ?_
  refine a_goto 27 dX7_hotCount_14 (by decide) ?_
  refine a_lret rfl dX7_hotCount_27 (by decide) (by decide) ?_
  exact ⟨rfl, rfl⟩
theorem c_X7_hotCount_ok (hm : k.2 ≤ 8) (e : Int32) (hg : sSl k.2 e = true) (i : Nat) (hf : mLi k e = some i) : aWr l X mX7_hotCount is19 [.ref 0, .int e] (aMo f v u k q) (some (.long (k.1.2.1 i))) (aMo 0 v u k q) := by
  refine aMt.of (by decide) rfl (Nat.le_of_ble_eq_true rfl) ?_
  have hc := c_X7_noEntry (l := l) (X := X) (f := f) (v := v) (u := u) (k := k) (q := q) hm e
  rw [hg] at hc
  have hl := c_X7_listed (l := l) (X := X) (f := 0) (v := v) (u := u) (k := k) (q := q) hm e
  rw [hf, oI_s] at hl
  have him : i < k.2 := by have := (aFo_some hf).2.1; omega
  have hi : vp_in (nI i) 8 := in8 (by omega)
  refine a_aload_n dX7_hotCount_0 rfl ?_
  refine a_aload_n dX7_hotCount_1 rfl ?_
  refine a_iload_n dX7_hotCount_2 rfl ?_
  refine a_ViR is19 k_X7_hotCount_197 (hc) dX7_hotCount_3 rfl rfl rfl rfl rfl rfl (Nat.le_of_ble_eq_true rfl) ⟨Nat.le_of_ble_eq_true rfl, Nat.le_of_ble_eq_true rfl⟩ ⟨rfl, rfl⟩ ?_
  refine a_iconst 0 dX7_hotCount_6 (by decide) ?_
  refine a_ViW is19 (aMo 0 v u k q) k_X7_hotCount_124 (c_X7_isRefused (f := f) (v := v) (u := u) (k := k) (q := q) false false) dX7_hotCount_7 rfl rfl rfl rfl rfl rfl (Nat.le_of_ble_eq_true rfl) ⟨Nat.le_of_ble_eq_true rfl, Nat.le_of_ble_eq_true rfl⟩ ⟨rfl, rfl⟩ (Nat.le_of_ble_eq_true rfl) rfl ?_
  refine a_if_eq 17 dX7_hotCount_10 (by decide) (fun _ => ?_) (fun z => absurd (by decide) z)
  refine a_aload_n dX7_hotCount_17 rfl ?_
  refine a_get fl_X7_42 dX7_hotCount_18 rfl rfl ?_
  refine a_aload_n dX7_hotCount_21 rfl ?_
  refine a_iload_n dX7_hotCount_22 rfl ?_
  refine a_ViR is19 k_X7_hotCount_194 (hl) dX7_hotCount_23 rfl rfl rfl rfl rfl rfl (Nat.le_of_ble_eq_true rfl) ⟨Nat.le_of_ble_eq_true rfl, Nat.le_of_ble_eq_true rfl⟩ ⟨rfl, rfl⟩ ?_
  refine a_lald dX7_hotCount_26 rfl hi ?_
  rw [cl8 (by omega)]
  refine a_lret rfl dX7_hotCount_27 (by decide) (by decide) ?_
  exact ⟨rfl, rfl⟩
theorem c_X7_hotError_bad (hm : k.2 ≤ 8) (e : Int32) (hg : sSl k.2 e = false) : aWr l X mX7_hotError is19 [.ref 0, .int e] (aMo f v u k q) (some (.long 0)) (aMo 1 v u k q) := by
  refine aMt.of (by decide) rfl (Nat.le_of_ble_eq_true rfl) ?_
  have hc := c_X7_noEntry (l := l) (X := X) (f := f) (v := v) (u := u) (k := k) (q := q) hm e
  rw [hg] at hc
  refine a_aload_n dX7_hotError_0 rfl ?_
  refine a_aload_n dX7_hotError_1 rfl ?_
  refine a_iload_n dX7_hotError_2 rfl ?_
  refine a_ViR is19 k_X7_hotError_197 (hc) dX7_hotError_3 rfl rfl rfl rfl rfl rfl (Nat.le_of_ble_eq_true rfl) ⟨Nat.le_of_ble_eq_true rfl, Nat.le_of_ble_eq_true rfl⟩ ⟨rfl, rfl⟩ ?_
  refine a_iconst 0 dX7_hotError_6 (by decide) ?_
  refine a_ViW is19 (aMo 1 v u k q) k_X7_hotError_124 (c_X7_isRefused (f := f) (v := v) (u := u) (k := k) (q := q) true false) dX7_hotError_7 rfl rfl rfl rfl rfl rfl (Nat.le_of_ble_eq_true rfl) ⟨Nat.le_of_ble_eq_true rfl, Nat.le_of_ble_eq_true rfl⟩ ⟨rfl, rfl⟩ (Nat.le_of_ble_eq_true rfl) rfl ?_
  refine a_if_eq 17 dX7_hotError_10 (by decide) (fun z => absurd z (by decide)) (fun _ => ?_)
  refine a_lconst 0 dX7_hotError_13 (by decide) ?_
  refine a_goto 27 dX7_hotError_14 (by decide) ?_
  refine a_lret rfl dX7_hotError_27 (by decide) (by decide) ?_
  exact ⟨rfl, rfl⟩
theorem c_X7_hotError_ok (hm : k.2 ≤ 8) (e : Int32) (hg : sSl k.2 e = true) (i : Nat) (hf : mLi k e = some i) : aWr l X mX7_hotError is19 [.ref 0, .int e] (aMo f v u k q) (some (.long (k.1.2.2 i))) (aMo 0 v u k q) := by
  refine aMt.of (by decide) rfl (Nat.le_of_ble_eq_true rfl) ?_
  have hc := c_X7_noEntry (l := l) (X := X) (f := f) (v := v) (u := u) (k := k) (q := q) hm e
  rw [hg] at hc
  have hl := c_X7_listed (l := l) (X := X) (f := 0) (v := v) (u := u) (k := k) (q := q) hm e
  rw [hf, oI_s] at hl
  have him : i < k.2 := by have := (aFo_some hf).2.1; omega
  have hi : vp_in (nI i) 8 := in8 (by omega)
  refine a_aload_n dX7_hotError_0 rfl ?_
  refine a_aload_n dX7_hotError_1 rfl ?_
  refine a_iload_n dX7_hotError_2 rfl ?_
  refine a_ViR is19 k_X7_hotError_197 (hc) dX7_hotError_3 rfl rfl rfl rfl rfl rfl (Nat.le_of_ble_eq_true rfl) ⟨Nat.le_of_ble_eq_true rfl, Nat.le_of_ble_eq_true rfl⟩ ⟨rfl, rfl⟩ ?_
  refine a_iconst 0 dX7_hotError_6 (by decide) ?_
  refine a_ViW is19 (aMo 0 v u k q) k_X7_hotError_124 (c_X7_isRefused (f := f) (v := v) (u := u) (k := k) (q := q) false false) dX7_hotError_7 rfl rfl rfl rfl rfl rfl (Nat.le_of_ble_eq_true rfl) ⟨Nat.le_of_ble_eq_true rfl, Nat.le_of_ble_eq_true rfl⟩ ⟨rfl, rfl⟩ (Nat.le_of_ble_eq_true rfl) rfl ?_
  refine a_if_eq 17 dX7_hotError_10 (by decide) (fun _ => ?_) (fun z => absurd (by decide) z)
  refine a_aload_n dX7_hotError_17 rfl ?_
  refine a_get fl_X7_45 dX7_hotError_18 rfl rfl ?_
  refine a_aload_n dX7_hotError_21 rfl ?_
  refine a_iload_n dX7_hotError_22 rfl ?_
  refine a_ViR is19 k_X7_hotError_194 (hl) dX7_hotError_23 rfl rfl rfl rfl rfl rfl (Nat.le_of_ble_eq_true rfl) ⟨Nat.le_of_ble_eq_true rfl, Nat.le_of_ble_eq_true rfl⟩ ⟨rfl, rfl⟩ ?_
  refine a_lald dX7_hotError_26 rfl hi ?_
  rw [cl8 (by omega)]
  refine a_lret rfl dX7_hotError_27 (by decide) (by decide) ?_
  exact ⟨rfl, rfl⟩
theorem c_X7_pinHottest_bad (hm : v.2.2.2.2.2.2 ≤ 6) (hk : k.2 ≤ 8) (hb : k.2 = 0 ∨ mUc v = 0 ∨ ∃ i, mLi k 0 = some i ∧ mNr v (k.1.1 i) = true) : aWr l X mX7_pinHottest is19 [.ref 0] (aMo f v u k q) (some (.int 0)) (aMo 1 v u k q) := by
  refine aMt.of (by decide) rfl (Nat.le_of_ble_eq_true rfl) ?_
  have hno : aJ l X mX7_pinHottest (aEd X mX7_pinHottest is19 (fun o h' => o = .inl (some (.int 0)) ∧ h' = aMo 1 v u k q)) 0 0 42 [.ref 0, .null, .null] [.ref 0] (aMo f v u k q) := by
    refine a_iconst 1 dX7_pinHottest_42 (by decide) ?_
    refine a_goto 47 dX7_pinHottest_43 (by decide) ?_
    refine a_iconst 0 dX7_pinHottest_47 (by decide) ?_
    refine a_ViW is19 (aMo 1 v u k q) k_X7_pinHottest_124 (c_X7_isRefused (f := f) (v := v) (u := u) (k := k) (q := q) true false) dX7_pinHottest_48 rfl rfl rfl rfl rfl rfl (Nat.le_of_ble_eq_true rfl) ⟨Nat.le_of_ble_eq_true rfl, Nat.le_of_ble_eq_true rfl⟩ ⟨rfl, rfl⟩ (Nat.le_of_ble_eq_true rfl) rfl ?_
    refine a_if_eq 56 dX7_pinHottest_51 (by decide) (fun z => absurd z (by decide)) (fun _ => ?_)
    refine a_iconst 0 dX7_pinHottest_54 (by decide) ?_
    refine a_iret rfl dX7_pinHottest_55 (by decide) (by decide) ?_
    exact ⟨rfl, rfl⟩
  refine a_aload_n dX7_pinHottest_0 rfl ?_
  refine a_get fl_X7_85 dX7_pinHottest_1 rfl rfl ?_
  refine a_if_eq 14 dX7_pinHottest_4 (by decide) (fun c4 => ?_) (fun c4 => ?_)
  · refine a_iconst 1 dX7_pinHottest_14 (by decide) ?_
    refine a_goto 19 dX7_pinHottest_15 (by decide) ?_
    refine a_istore_n dX7_pinHottest_19 (by decide) rfl ?_
    refine a_aload_n dX7_pinHottest_20 rfl ?_
    refine a_iload_n dX7_pinHottest_21 rfl ?_
    refine a_if_ne 42 dX7_pinHottest_22 (by decide) (fun _ => ?_) (fun z => absurd z (by decide))
    refine a_drop 1 ?_
    exact hno
  · refine a_aload_n dX7_pinHottest_7 rfl ?_
    refine a_ViR is19 k_X7_pinHottest_182 (c_X7_ups (f := f) (v := v) (u := u) (k := k) (q := q)) dX7_pinHottest_8 rfl rfl rfl rfl rfl rfl (Nat.le_of_ble_eq_true rfl) ⟨Nat.le_of_ble_eq_true rfl, Nat.le_of_ble_eq_true rfl⟩ ⟨rfl, rfl⟩ ?_
    refine a_if_ne 18 dX7_pinHottest_11 (by decide) (fun c11 => ?_) (fun c11 => ?_)
    · refine a_iconst 0 dX7_pinHottest_18 (by decide) ?_
      refine a_istore_n dX7_pinHottest_19 (by decide) rfl ?_
      refine a_aload_n dX7_pinHottest_20 rfl ?_
      refine a_iload_n dX7_pinHottest_21 rfl ?_
      refine a_if_ne 42 dX7_pinHottest_22 (by decide) (fun z => absurd (by decide) z) (fun _ => ?_)
      obtain ⟨i, hf, hr⟩ : ∃ i, mLi k 0 = some i ∧ mNr v (k.1.1 i) = true := by
        rcases hb with z | z | z
        · exact absurd (by rw [z]; rfl) c4
        · exact absurd z c11
        · exact z
      have hl := c_X7_listed (l := l) (X := X) (f := f) (v := v) (u := u) (k := k) (q := q) hk 0
      rw [hf, oI_s] at hl
      have him : i < k.2 := by have := (aFo_some hf).2.1; omega
      have hi : vp_in (nI i) 8 := in8 (by omega)
      have hn := c_X7_noRoom (l := l) (X := X) (f := f) (v := v) (u := u) (k := k) (q := q) hm (k.1.1 i)
      rw [hr] at hn
      refine a_aload_n dX7_pinHottest_25 rfl ?_
      refine a_aload_n dX7_pinHottest_26 rfl ?_
      refine a_get fl_X7_39 dX7_pinHottest_27 rfl rfl ?_
      refine a_aload_n dX7_pinHottest_30 rfl ?_
      refine a_iconst 0 dX7_pinHottest_31 (by decide) ?_
      refine a_ViR is19 k_X7_pinHottest_194 (hl) dX7_pinHottest_32 rfl rfl rfl rfl rfl rfl (Nat.le_of_ble_eq_true rfl) ⟨Nat.le_of_ble_eq_true rfl, Nat.le_of_ble_eq_true rfl⟩ ⟨rfl, rfl⟩ ?_
      refine a_iald dX7_pinHottest_35 rfl hi ?_
      rw [cl8 (by omega)]
      refine a_ViR is19 k_X7_pinHottest_188 (hn) dX7_pinHottest_36 rfl rfl rfl rfl rfl rfl (Nat.le_of_ble_eq_true rfl) ⟨Nat.le_of_ble_eq_true rfl, Nat.le_of_ble_eq_true rfl⟩ ⟨rfl, rfl⟩ ?_
      refine a_if_eq 46 dX7_pinHottest_39 (by decide) (fun z => absurd z (by decide)) (fun _ => ?_)
      refine a_drop 1 ?_
      exact hno
    · refine a_iconst 1 dX7_pinHottest_14 (by decide) ?_
      refine a_goto 19 dX7_pinHottest_15 (by decide) ?_
      refine a_istore_n dX7_pinHottest_19 (by decide) rfl ?_
      refine a_aload_n dX7_pinHottest_20 rfl ?_
      refine a_iload_n dX7_pinHottest_21 rfl ?_
      refine a_if_ne 42 dX7_pinHottest_22 (by decide) (fun _ => ?_) (fun z => absurd z (by decide))
      refine a_drop 1 ?_
      exact hno
theorem c_X7_pinHottest_ok (hm : v.2.2.2.2.2.2 ≤ 6) (hk : k.2 ≤ 8) (h0 : ¬ k.2 = 0) (h1 : ¬ mUc v = 0) (i : Nat) (hf : mLi k 0 = some i) (hr : mNr v (k.1.1 i) = false) : aWr l X mX7_pinHottest is19 [.ref 0] (aMo f v u k q) (some (.int (oI (mRd v (mUc v - 1))))) (aMo 0 (mPt v (k.1.1 i) (oI (mRd v (mUc v - 1)))) u k q) := by
  refine aMt.of (by decide) rfl (Nat.le_of_ble_eq_true rfl) ?_
  have hl := c_X7_listed (l := l) (X := X) (f := f) (v := v) (u := u) (k := k) (q := q) hk 0
  rw [hf, oI_s] at hl
  have hl0 := c_X7_listed (l := l) (X := X) (f := 0) (v := v) (u := u) (k := k) (q := q) hk 0
  rw [hf, oI_s] at hl0
  have him : i < k.2 := by have := (aFo_some hf).2.1; omega
  have hi : vp_in (nI i) 8 := in8 (by omega)
  have hn := c_X7_noRoom (l := l) (X := X) (f := f) (v := v) (u := u) (k := k) (q := q) hm (k.1.1 i)
  rw [hr] at hn
  have hk0 : ¬ nI k.2 = 0 := nI_ne0 (by omega) (by omega)
  refine a_aload_n dX7_pinHottest_0 rfl ?_
  refine a_get fl_X7_85 dX7_pinHottest_1 rfl rfl ?_
  refine a_if_eq 14 dX7_pinHottest_4 (by decide) (fun z => absurd z hk0) (fun _ => ?_)
  refine a_aload_n dX7_pinHottest_7 rfl ?_
  refine a_ViR is19 k_X7_pinHottest_182 (c_X7_ups (f := f) (v := v) (u := u) (k := k) (q := q)) dX7_pinHottest_8 rfl rfl rfl rfl rfl rfl (Nat.le_of_ble_eq_true rfl) ⟨Nat.le_of_ble_eq_true rfl, Nat.le_of_ble_eq_true rfl⟩ ⟨rfl, rfl⟩ ?_
  refine a_if_ne 18 dX7_pinHottest_11 (by decide) (fun _ => ?_) (fun z => absurd z h1)
  refine a_iconst 0 dX7_pinHottest_18 (by decide) ?_
  refine a_istore_n dX7_pinHottest_19 (by decide) rfl ?_
  refine a_aload_n dX7_pinHottest_20 rfl ?_
  refine a_iload_n dX7_pinHottest_21 rfl ?_
  refine a_if_ne 42 dX7_pinHottest_22 (by decide) (fun z => absurd (by decide) z) (fun _ => ?_)
  refine a_aload_n dX7_pinHottest_25 rfl ?_
  refine a_aload_n dX7_pinHottest_26 rfl ?_
  refine a_get fl_X7_39 dX7_pinHottest_27 rfl rfl ?_
  refine a_aload_n dX7_pinHottest_30 rfl ?_
  refine a_iconst 0 dX7_pinHottest_31 (by decide) ?_
  refine a_ViR is19 k_X7_pinHottest_194 (hl) dX7_pinHottest_32 rfl rfl rfl rfl rfl rfl (Nat.le_of_ble_eq_true rfl) ⟨Nat.le_of_ble_eq_true rfl, Nat.le_of_ble_eq_true rfl⟩ ⟨rfl, rfl⟩ ?_
  refine a_iald dX7_pinHottest_35 rfl hi ?_
  rw [cl8 (by omega)]
  refine a_ViR is19 k_X7_pinHottest_188 (hn) dX7_pinHottest_36 rfl rfl rfl rfl rfl rfl (Nat.le_of_ble_eq_true rfl) ⟨Nat.le_of_ble_eq_true rfl, Nat.le_of_ble_eq_true rfl⟩ ⟨rfl, rfl⟩ ?_
  refine a_if_eq 46 dX7_pinHottest_39 (by decide) (fun _ => ?_) (fun z => absurd (by decide) z)
  refine a_iconst 0 dX7_pinHottest_46 (by decide) ?_
  refine a_iconst 0 dX7_pinHottest_47 (by decide) ?_
  refine a_ViW is19 (aMo 0 v u k q) k_X7_pinHottest_124 (c_X7_isRefused (f := f) (v := v) (u := u) (k := k) (q := q) false false) dX7_pinHottest_48 rfl rfl rfl rfl rfl rfl (Nat.le_of_ble_eq_true rfl) ⟨Nat.le_of_ble_eq_true rfl, Nat.le_of_ble_eq_true rfl⟩ ⟨rfl, rfl⟩ (Nat.le_of_ble_eq_true rfl) rfl ?_
  refine a_if_eq 56 dX7_pinHottest_51 (by decide) (fun _ => ?_) (fun z => absurd (by decide) z)
  refine a_aload_n dX7_pinHottest_56 rfl ?_
  refine a_aload_n dX7_pinHottest_57 rfl ?_
  refine a_ViR is19 k_X7_pinHottest_182 (c_X7_ups (f := 0) (v := v) (u := u) (k := k) (q := q)) dX7_pinHottest_58 rfl rfl rfl rfl rfl rfl (Nat.le_of_ble_eq_true rfl) ⟨Nat.le_of_ble_eq_true rfl, Nat.le_of_ble_eq_true rfl⟩ ⟨rfl, rfl⟩ ?_
  refine a_iconst 1 dX7_pinHottest_61 (by decide) ?_
  refine a_isub dX7_pinHottest_62 ?_
  refine a_ViR is19 k_X7_pinHottest_185 (c_X7_ranked (f := 0) (v := v) (u := u) (k := k) (q := q) (mUc v - 1)) dX7_pinHottest_63 rfl rfl rfl rfl rfl rfl (Nat.le_of_ble_eq_true rfl) ⟨Nat.le_of_ble_eq_true rfl, Nat.le_of_ble_eq_true rfl⟩ ⟨rfl, rfl⟩ ?_
  refine a_istore_n dX7_pinHottest_66 (by decide) rfl ?_
  refine a_aload_n dX7_pinHottest_67 rfl ?_
  refine a_aload_n dX7_pinHottest_68 rfl ?_
  refine a_get fl_X7_39 dX7_pinHottest_69 rfl rfl ?_
  refine a_aload_n dX7_pinHottest_72 rfl ?_
  refine a_iconst 0 dX7_pinHottest_73 (by decide) ?_
  refine a_ViR is19 k_X7_pinHottest_194 (hl0) dX7_pinHottest_74 rfl rfl rfl rfl rfl rfl (Nat.le_of_ble_eq_true rfl) ⟨Nat.le_of_ble_eq_true rfl, Nat.le_of_ble_eq_true rfl⟩ ⟨rfl, rfl⟩ ?_
  refine a_iald dX7_pinHottest_77 rfl hi ?_
  rw [cl8 (by omega)]
  refine a_iload_n dX7_pinHottest_78 rfl ?_
  refine a_ViW is19 (aMo 0 (mPt v (k.1.1 i) (oI (mRd v (mUc v - 1)))) u k q) k_X7_pinHottest_191 (c_X7_pinsTo (f := 0) (v := v) (u := u) (k := k) (q := q) hm (k.1.1 i) (oI (mRd v (mUc v - 1))) hr) dX7_pinHottest_79 rfl rfl rfl rfl rfl rfl (Nat.le_of_ble_eq_true rfl) ⟨Nat.le_of_ble_eq_true rfl, Nat.le_of_ble_eq_true rfl⟩ ⟨rfl, rfl⟩ (Nat.le_of_ble_eq_true rfl) rfl ?_
  refine a_pop dX7_pinHottest_82 rfl ?_
  refine a_iload_n dX7_pinHottest_83 rfl ?_
  refine a_iret rfl dX7_pinHottest_84 (by decide) (by decide) ?_
  exact ⟨rfl, rfl⟩
end MO4
