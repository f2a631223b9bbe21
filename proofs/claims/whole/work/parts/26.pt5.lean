/-! written by wip/whole/pp.py out of wip/whole/src/26.pt5.lean -/
theorem dX6_reset_0 : decode cX6_reset 0 = .ok (.iload_n 1, 1) := by decide +kernel
theorem dX6_reset_1 : decode cX6_reset 1 = .ok (.invokestatic 46, 3) := by decide +kernel
theorem dX6_reset_4 : decode cX6_reset 4 = .ok (.ifCond .ne 13, 3) := by decide +kernel
theorem dX6_reset_7 : decode cX6_reset 7 = .ok (.new 50, 3) := by decide +kernel
theorem dX6_reset_10 : decode cX6_reset 10 = .ok (.dup, 1) := by decide +kernel
theorem dX6_reset_11 : decode cX6_reset 11 = .ok (.ldc 52, 2) := by decide +kernel
theorem dX6_reset_13 : decode cX6_reset 13 = .ok (.invokespecial 54, 3) := by decide +kernel
theorem dX6_reset_16 : decode cX6_reset 16 = .ok (.athrow, 1) := by decide +kernel
theorem dX6_reset_17 : decode cX6_reset 17 = .ok (.aload_n 0, 1) := by decide +kernel
theorem dX6_reset_18 : decode cX6_reset 18 = .ok (.getfield 28, 3) := by decide +kernel
theorem dX6_reset_21 : decode cX6_reset 21 = .ok (.invokevirtual 57, 3) := by decide +kernel
theorem dX6_reset_24 : decode cX6_reset 24 = .ok (.istore_n 2, 1) := by decide +kernel
theorem dX6_reset_25 : decode cX6_reset 25 = .ok (.aload_n 0, 1) := by decide +kernel
theorem dX6_reset_26 : decode cX6_reset 26 = .ok (.getfield 10, 3) := by decide +kernel
theorem dX6_reset_29 : decode cX6_reset 29 = .ok (.invokevirtual 61, 3) := by decide +kernel
theorem dX6_reset_32 : decode cX6_reset 32 = .ok (.aload_n 0, 1) := by decide +kernel
theorem dX6_reset_33 : decode cX6_reset 33 = .ok (.getfield 19, 3) := by decide +kernel
theorem dX6_reset_36 : decode cX6_reset 36 = .ok (.invokevirtual 64, 3) := by decide +kernel
theorem dX6_reset_39 : decode cX6_reset 39 = .ok (.aload_n 0, 1) := by decide +kernel
theorem dX6_reset_40 : decode cX6_reset 40 = .ok (.getfield 35, 3) := by decide +kernel
theorem dX6_reset_43 : decode cX6_reset 43 = .ok (.invokevirtual 65, 3) := by decide +kernel
theorem dX6_reset_46 : decode cX6_reset 46 = .ok (.aload_n 0, 1) := by decide +kernel
theorem dX6_reset_47 : decode cX6_reset 47 = .ok (.getfield 42, 3) := by decide +kernel
theorem dX6_reset_50 : decode cX6_reset 50 = .ok (.invokevirtual 66, 3) := by decide +kernel
theorem dX6_reset_53 : decode cX6_reset 53 = .ok (.aload_n 0, 1) := by decide +kernel
theorem dX6_reset_54 : decode cX6_reset 54 = .ok (.getfield 28, 3) := by decide +kernel
theorem dX6_reset_57 : decode cX6_reset 57 = .ok (.iload_n 1, 1) := by decide +kernel
theorem dX6_reset_58 : decode cX6_reset 58 = .ok (.invokevirtual 67, 3) := by decide +kernel
theorem dX6_reset_61 : decode cX6_reset 61 = .ok (.iload_n 2, 1) := by decide +kernel
theorem dX6_reset_62 : decode cX6_reset 62 = .ok (.ireturn, 1) := by decide +kernel
theorem dX6_imbalance_0 : decode cX6_imbalance 0 = .ok (.dconst 0, 1) := by decide +kernel
theorem dX6_imbalance_1 : decode cX6_imbalance 1 = .ok (.dstore_n 1, 1) := by decide +kernel
theorem dX6_imbalance_2 : decode cX6_imbalance 2 = .ok (.iconst 0, 1) := by decide +kernel
theorem dX6_imbalance_3 : decode cX6_imbalance 3 = .ok (.istore_n 3, 1) := by decide +kernel
theorem dX6_imbalance_4 : decode cX6_imbalance 4 = .ok (.iload_n 3, 1) := by decide +kernel
theorem dX6_imbalance_5 : decode cX6_imbalance 5 = .ok (.bipush 10, 2) := by decide +kernel
theorem dX6_imbalance_7 : decode cX6_imbalance 7 = .ok (.if_icmp .ge 51, 3) := by decide +kernel
theorem dX6_imbalance_10 : decode cX6_imbalance 10 = .ok (.aload_n 0, 1) := by decide +kernel
theorem dX6_imbalance_11 : decode cX6_imbalance 11 = .ok (.iload_n 3, 1) := by decide +kernel
theorem dX6_imbalance_12 : decode cX6_imbalance 12 = .ok (.invokevirtual 85, 3) := by decide +kernel
theorem dX6_imbalance_15 : decode cX6_imbalance 15 = .ok (.dstore 4, 2) := by decide +kernel
theorem dX6_imbalance_17 : decode cX6_imbalance 17 = .ok (.dload 4, 2) := by decide +kernel
theorem dX6_imbalance_19 : decode cX6_imbalance 19 = .ok (.dconst 0, 1) := by decide +kernel
theorem dX6_imbalance_20 : decode cX6_imbalance 20 = .ok (.dcmp .l, 1) := by decide +kernel
theorem dX6_imbalance_21 : decode cX6_imbalance 21 = .ok (.ifCond .le 31, 3) := by decide +kernel
theorem dX6_imbalance_24 : decode cX6_imbalance 24 = .ok (.aload_n 0, 1) := by decide +kernel
theorem dX6_imbalance_25 : decode cX6_imbalance 25 = .ok (.getfield 28, 3) := by decide +kernel
theorem dX6_imbalance_28 : decode cX6_imbalance 28 = .ok (.iload_n 3, 1) := by decide +kernel
theorem dX6_imbalance_29 : decode cX6_imbalance 29 = .ok (.invokevirtual 89, 3) := by decide +kernel
theorem dX6_imbalance_32 : decode cX6_imbalance 32 = .ok (.i2d, 1) := by decide +kernel
theorem dX6_imbalance_33 : decode cX6_imbalance 33 = .ok (.dload 4, 2) := by decide +kernel
theorem dX6_imbalance_35 : decode cX6_imbalance 35 = .ok (.ddiv, 1) := by decide +kernel
theorem dX6_imbalance_36 : decode cX6_imbalance 36 = .ok (.dstore 6, 2) := by decide +kernel
theorem dX6_imbalance_38 : decode cX6_imbalance 38 = .ok (.dload 6, 2) := by decide +kernel
theorem dX6_imbalance_40 : decode cX6_imbalance 40 = .ok (.dload_n 1, 1) := by decide +kernel
theorem dX6_imbalance_41 : decode cX6_imbalance 41 = .ok (.dcmp .l, 1) := by decide +kernel
theorem dX6_imbalance_42 : decode cX6_imbalance 42 = .ok (.ifCond .le 8, 3) := by decide +kernel
theorem dX6_imbalance_45 : decode cX6_imbalance 45 = .ok (.dload 6, 2) := by decide +kernel
theorem dX6_imbalance_47 : decode cX6_imbalance 47 = .ok (.goto 4, 3) := by decide +kernel
theorem dX6_imbalance_50 : decode cX6_imbalance 50 = .ok (.dload_n 1, 1) := by decide +kernel
theorem dX6_imbalance_51 : decode cX6_imbalance 51 = .ok (.dstore_n 1, 1) := by decide +kernel
theorem dX6_imbalance_52 : decode cX6_imbalance 52 = .ok (.iinc 3 1, 3) := by decide +kernel
theorem dX6_imbalance_55 : decode cX6_imbalance 55 = .ok (.goto (-51), 3) := by decide +kernel
theorem dX6_imbalance_58 : decode cX6_imbalance 58 = .ok (.dload_n 1, 1) := by decide +kernel
theorem dX6_imbalance_59 : decode cX6_imbalance 59 = .ok (.dreturn, 1) := by decide +kernel
theorem dX6_addServer_0 : decode cX6_addServer 0 = .ok (.iload_n 1, 1) := by decide +kernel
theorem dX6_addServer_1 : decode cX6_addServer 1 = .ok (.invokestatic 92, 3) := by decide +kernel
theorem dX6_addServer_4 : decode cX6_addServer 4 = .ok (.iload_n 2, 1) := by decide +kernel
theorem dX6_addServer_5 : decode cX6_addServer 5 = .ok (.invokestatic 95, 3) := by decide +kernel
theorem dX6_addServer_8 : decode cX6_addServer 8 = .ok (.aload_n 0, 1) := by decide +kernel
theorem dX6_addServer_9 : decode cX6_addServer 9 = .ok (.getfield 10, 3) := by decide +kernel
theorem dX6_addServer_12 : decode cX6_addServer 12 = .ok (.iload_n 1, 1) := by decide +kernel
theorem dX6_addServer_13 : decode cX6_addServer 13 = .ok (.invokevirtual 98, 3) := by decide +kernel
theorem dX6_addServer_16 : decode cX6_addServer 16 = .ok (.iconst (-1), 1) := by decide +kernel
theorem dX6_addServer_17 : decode cX6_addServer 17 = .ok (.if_icmp .eq 13, 3) := by decide +kernel
theorem dX6_addServer_20 : decode cX6_addServer 20 = .ok (.new 101, 3) := by decide +kernel
theorem dX6_addServer_23 : decode cX6_addServer 23 = .ok (.dup, 1) := by decide +kernel
theorem dX6_addServer_24 : decode cX6_addServer 24 = .ok (.ldc 103, 2) := by decide +kernel
theorem dX6_addServer_26 : decode cX6_addServer 26 = .ok (.invokespecial 105, 3) := by decide +kernel
theorem dX6_addServer_29 : decode cX6_addServer 29 = .ok (.athrow, 1) := by decide +kernel
theorem dX6_addServer_30 : decode cX6_addServer 30 = .ok (.aload_n 0, 1) := by decide +kernel
theorem dX6_addServer_31 : decode cX6_addServer 31 = .ok (.getfield 10, 3) := by decide +kernel
theorem dX6_addServer_34 : decode cX6_addServer 34 = .ok (.invokevirtual 106, 3) := by decide +kernel
theorem dX6_addServer_37 : decode cX6_addServer 37 = .ok (.istore_n 3, 1) := by decide +kernel
theorem dX6_addServer_38 : decode cX6_addServer 38 = .ok (.iload_n 3, 1) := by decide +kernel
theorem dX6_addServer_39 : decode cX6_addServer 39 = .ok (.iconst (-1), 1) := by decide +kernel
theorem dX6_addServer_40 : decode cX6_addServer 40 = .ok (.if_icmp .ne 13, 3) := by decide +kernel
theorem dX6_addServer_43 : decode cX6_addServer 43 = .ok (.new 101, 3) := by decide +kernel
theorem dX6_addServer_46 : decode cX6_addServer 46 = .ok (.dup, 1) := by decide +kernel
theorem dX6_addServer_47 : decode cX6_addServer 47 = .ok (.ldc 109, 2) := by decide +kernel
theorem dX6_addServer_49 : decode cX6_addServer 49 = .ok (.invokespecial 105, 3) := by decide +kernel
theorem dX6_addServer_52 : decode cX6_addServer 52 = .ok (.athrow, 1) := by decide +kernel
theorem dX6_addServer_53 : decode cX6_addServer 53 = .ok (.aload_n 0, 1) := by decide +kernel
theorem dX6_addServer_54 : decode cX6_addServer 54 = .ok (.getfield 42, 3) := by decide +kernel
theorem dX6_addServer_57 : decode cX6_addServer 57 = .ok (.aload_n 0, 1) := by decide +kernel
theorem dX6_addServer_58 : decode cX6_addServer 58 = .ok (.getfield 10, 3) := by decide +kernel
theorem dX6_addServer_61 : decode cX6_addServer 61 = .ok (.aload_n 0, 1) := by decide +kernel
theorem dX6_addServer_62 : decode cX6_addServer 62 = .ok (.getfield 19, 3) := by decide +kernel
theorem dX6_addServer_65 : decode cX6_addServer 65 = .ok (.invokevirtual 111, 3) := by decide +kernel
theorem dX6_addServer_68 : decode cX6_addServer 68 = .ok (.aload_n 0, 1) := by decide +kernel
theorem dX6_addServer_69 : decode cX6_addServer 69 = .ok (.getfield 10, 3) := by decide +kernel
theorem dX6_addServer_72 : decode cX6_addServer 72 = .ok (.iload_n 3, 1) := by decide +kernel
theorem dX6_addServer_73 : decode cX6_addServer 73 = .ok (.iload_n 1, 1) := by decide +kernel
theorem dX6_addServer_74 : decode cX6_addServer 74 = .ok (.iload_n 2, 1) := by decide +kernel
theorem dX6_addServer_75 : decode cX6_addServer 75 = .ok (.invokevirtual 115, 3) := by decide +kernel
theorem dX6_addServer_78 : decode cX6_addServer 78 = .ok (.aload_n 0, 1) := by decide +kernel
theorem dX6_addServer_79 : decode cX6_addServer 79 = .ok (.getfield 28, 3) := by decide +kernel
theorem dX6_addServer_82 : decode cX6_addServer 82 = .ok (.aload_n 0, 1) := by decide +kernel
theorem dX6_addServer_83 : decode cX6_addServer 83 = .ok (.getfield 10, 3) := by decide +kernel
theorem dX6_addServer_86 : decode cX6_addServer 86 = .ok (.invokevirtual 119, 3) := by decide +kernel
theorem dX6_addServer_89 : decode cX6_addServer 89 = .ok (.iload_n 3, 1) := by decide +kernel
theorem dX6_addServer_90 : decode cX6_addServer 90 = .ok (.ireturn, 1) := by decide +kernel
theorem dX6_removeServer_0 : decode cX6_removeServer 0 = .ok (.aload_n 0, 1) := by decide +kernel
theorem dX6_removeServer_1 : decode cX6_removeServer 1 = .ok (.iload_n 1, 1) := by decide +kernel
theorem dX6_removeServer_2 : decode cX6_removeServer 2 = .ok (.invokevirtual 123, 3) := by decide +kernel
theorem dX6_removeServer_5 : decode cX6_removeServer 5 = .ok (.aload_n 0, 1) := by decide +kernel
theorem dX6_removeServer_6 : decode cX6_removeServer 6 = .ok (.getfield 10, 3) := by decide +kernel
theorem dX6_removeServer_9 : decode cX6_removeServer 9 = .ok (.iload_n 1, 1) := by decide +kernel
theorem dX6_removeServer_10 : decode cX6_removeServer 10 = .ok (.invokevirtual 126, 3) := by decide +kernel
theorem dX6_removeServer_13 : decode cX6_removeServer 13 = .ok (.lstore_n 2, 1) := by decide +kernel
theorem dX6_removeServer_14 : decode cX6_removeServer 14 = .ok (.aload_n 0, 1) := by decide +kernel
theorem dX6_removeServer_15 : decode cX6_removeServer 15 = .ok (.getfield 42, 3) := by decide +kernel
theorem dX6_removeServer_18 : decode cX6_removeServer 18 = .ok (.aload_n 0, 1) := by decide +kernel
theorem dX6_removeServer_19 : decode cX6_removeServer 19 = .ok (.getfield 10, 3) := by decide +kernel
theorem dX6_removeServer_22 : decode cX6_removeServer 22 = .ok (.aload_n 0, 1) := by decide +kernel
theorem dX6_removeServer_23 : decode cX6_removeServer 23 = .ok (.getfield 19, 3) := by decide +kernel
theorem dX6_removeServer_26 : decode cX6_removeServer 26 = .ok (.invokevirtual 111, 3) := by decide +kernel
theorem dX6_removeServer_29 : decode cX6_removeServer 29 = .ok (.aload_n 0, 1) := by decide +kernel
theorem dX6_removeServer_30 : decode cX6_removeServer 30 = .ok (.getfield 10, 3) := by decide +kernel
theorem dX6_removeServer_33 : decode cX6_removeServer 33 = .ok (.iload_n 1, 1) := by decide +kernel
theorem dX6_removeServer_34 : decode cX6_removeServer 34 = .ok (.invokevirtual 130, 3) := by decide +kernel
theorem dX6_removeServer_37 : decode cX6_removeServer 37 = .ok (.aload_n 0, 1) := by decide +kernel
theorem dX6_removeServer_38 : decode cX6_removeServer 38 = .ok (.getfield 19, 3) := by decide +kernel
theorem dX6_removeServer_41 : decode cX6_removeServer 41 = .ok (.iload_n 1, 1) := by decide +kernel
theorem dX6_removeServer_42 : decode cX6_removeServer 42 = .ok (.invokevirtual 133, 3) := by decide +kernel
theorem dX6_removeServer_45 : decode cX6_removeServer 45 = .ok (.aload_n 0, 1) := by decide +kernel
theorem dX6_removeServer_46 : decode cX6_removeServer 46 = .ok (.getfield 28, 3) := by decide +kernel
theorem dX6_removeServer_49 : decode cX6_removeServer 49 = .ok (.aload_n 0, 1) := by decide +kernel
theorem dX6_removeServer_50 : decode cX6_removeServer 50 = .ok (.getfield 10, 3) := by decide +kernel
theorem dX6_removeServer_53 : decode cX6_removeServer 53 = .ok (.invokevirtual 119, 3) := by decide +kernel
theorem dX6_removeServer_56 : decode cX6_removeServer 56 = .ok (.lload_n 2, 1) := by decide +kernel
theorem dX6_removeServer_57 : decode cX6_removeServer 57 = .ok (.lreturn, 1) := by decide +kernel
theorem dX6_setWeight_0 : decode cX6_setWeight 0 = .ok (.aload_n 0, 1) := by decide +kernel
theorem dX6_setWeight_1 : decode cX6_setWeight 1 = .ok (.iload_n 1, 1) := by decide +kernel
theorem dX6_setWeight_2 : decode cX6_setWeight 2 = .ok (.invokevirtual 123, 3) := by decide +kernel
theorem dX6_setWeight_5 : decode cX6_setWeight 5 = .ok (.iload_n 2, 1) := by decide +kernel
theorem dX6_setWeight_6 : decode cX6_setWeight 6 = .ok (.invokestatic 95, 3) := by decide +kernel
theorem dX6_setWeight_9 : decode cX6_setWeight 9 = .ok (.aload_n 0, 1) := by decide +kernel
theorem dX6_setWeight_10 : decode cX6_setWeight 10 = .ok (.getfield 10, 3) := by decide +kernel
theorem dX6_setWeight_13 : decode cX6_setWeight 13 = .ok (.iload_n 1, 1) := by decide +kernel
theorem dX6_setWeight_14 : decode cX6_setWeight 14 = .ok (.invokevirtual 136, 3) := by decide +kernel
theorem dX6_setWeight_17 : decode cX6_setWeight 17 = .ok (.istore_n 3, 1) := by decide +kernel
theorem dX6_setWeight_18 : decode cX6_setWeight 18 = .ok (.aload_n 0, 1) := by decide +kernel
theorem dX6_setWeight_19 : decode cX6_setWeight 19 = .ok (.getfield 42, 3) := by decide +kernel
theorem dX6_setWeight_22 : decode cX6_setWeight 22 = .ok (.aload_n 0, 1) := by decide +kernel
theorem dX6_setWeight_23 : decode cX6_setWeight 23 = .ok (.getfield 10, 3) := by decide +kernel
theorem dX6_setWeight_26 : decode cX6_setWeight 26 = .ok (.aload_n 0, 1) := by decide +kernel
theorem dX6_setWeight_27 : decode cX6_setWeight 27 = .ok (.getfield 19, 3) := by decide +kernel
theorem dX6_setWeight_30 : decode cX6_setWeight 30 = .ok (.invokevirtual 111, 3) := by decide +kernel
theorem dX6_setWeight_33 : decode cX6_setWeight 33 = .ok (.aload_n 0, 1) := by decide +kernel
theorem dX6_setWeight_34 : decode cX6_setWeight 34 = .ok (.getfield 10, 3) := by decide +kernel
theorem dX6_setWeight_37 : decode cX6_setWeight 37 = .ok (.iload_n 1, 1) := by decide +kernel
theorem dX6_setWeight_38 : decode cX6_setWeight 38 = .ok (.iload_n 2, 1) := by decide +kernel
theorem dX6_setWeight_39 : decode cX6_setWeight 39 = .ok (.invokevirtual 139, 3) := by decide +kernel
theorem dX6_setWeight_42 : decode cX6_setWeight 42 = .ok (.aload_n 0, 1) := by decide +kernel
theorem dX6_setWeight_43 : decode cX6_setWeight 43 = .ok (.getfield 28, 3) := by decide +kernel
theorem dX6_setWeight_46 : decode cX6_setWeight 46 = .ok (.aload_n 0, 1) := by decide +kernel
theorem dX6_setWeight_47 : decode cX6_setWeight 47 = .ok (.getfield 10, 3) := by decide +kernel
theorem dX6_setWeight_50 : decode cX6_setWeight 50 = .ok (.invokevirtual 119, 3) := by decide +kernel
theorem dX6_setWeight_53 : decode cX6_setWeight 53 = .ok (.iload_n 3, 1) := by decide +kernel
theorem dX6_setWeight_54 : decode cX6_setWeight 54 = .ok (.ireturn, 1) := by decide +kernel
theorem dX6_setUp_0 : decode cX6_setUp 0 = .ok (.aload_n 0, 1) := by decide +kernel
theorem dX6_setUp_1 : decode cX6_setUp 1 = .ok (.iload_n 1, 1) := by decide +kernel
theorem dX6_setUp_2 : decode cX6_setUp 2 = .ok (.invokevirtual 123, 3) := by decide +kernel
theorem dX6_setUp_5 : decode cX6_setUp 5 = .ok (.aload_n 0, 1) := by decide +kernel
theorem dX6_setUp_6 : decode cX6_setUp 6 = .ok (.getfield 10, 3) := by decide +kernel
theorem dX6_setUp_9 : decode cX6_setUp 9 = .ok (.iload_n 1, 1) := by decide +kernel
theorem dX6_setUp_10 : decode cX6_setUp 10 = .ok (.invokevirtual 143, 3) := by decide +kernel
theorem dX6_setUp_13 : decode cX6_setUp 13 = .ok (.istore_n 3, 1) := by decide +kernel
theorem dX6_setUp_14 : decode cX6_setUp 14 = .ok (.aload_n 0, 1) := by decide +kernel
theorem dX6_setUp_15 : decode cX6_setUp 15 = .ok (.getfield 42, 3) := by decide +kernel
theorem dX6_setUp_18 : decode cX6_setUp 18 = .ok (.aload_n 0, 1) := by decide +kernel
theorem dX6_setUp_19 : decode cX6_setUp 19 = .ok (.getfield 10, 3) := by decide +kernel
theorem dX6_setUp_22 : decode cX6_setUp 22 = .ok (.aload_n 0, 1) := by decide +kernel
theorem dX6_setUp_23 : decode cX6_setUp 23 = .ok (.getfield 19, 3) := by decide +kernel
theorem dX6_setUp_26 : decode cX6_setUp 26 = .ok (.invokevirtual 111, 3) := by decide +kernel
theorem dX6_setUp_29 : decode cX6_setUp 29 = .ok (.aload_n 0, 1) := by decide +kernel
theorem dX6_setUp_30 : decode cX6_setUp 30 = .ok (.getfield 10, 3) := by decide +kernel
theorem dX6_setUp_33 : decode cX6_setUp 33 = .ok (.iload_n 1, 1) := by decide +kernel
theorem dX6_setUp_34 : decode cX6_setUp 34 = .ok (.iload_n 2, 1) := by decide +kernel
theorem dX6_setUp_35 : decode cX6_setUp 35 = .ok (.invokevirtual 146, 3) := by decide +kernel
theorem dX6_setUp_38 : decode cX6_setUp 38 = .ok (.aload_n 0, 1) := by decide +kernel
theorem dX6_setUp_39 : decode cX6_setUp 39 = .ok (.getfield 28, 3) := by decide +kernel
theorem dX6_setUp_42 : decode cX6_setUp 42 = .ok (.aload_n 0, 1) := by decide +kernel
theorem dX6_setUp_43 : decode cX6_setUp 43 = .ok (.getfield 10, 3) := by decide +kernel
theorem dX6_setUp_46 : decode cX6_setUp 46 = .ok (.invokevirtual 119, 3) := by decide +kernel
theorem dX6_setUp_49 : decode cX6_setUp 49 = .ok (.iload_n 3, 1) := by decide +kernel
theorem dX6_setUp_50 : decode cX6_setUp 50 = .ok (.ireturn, 1) := by decide +kernel
theorem dX6_idealShare_0 : decode cX6_idealShare 0 = .ok (.aload_n 0, 1) := by decide +kernel
theorem dX6_idealShare_1 : decode cX6_idealShare 1 = .ok (.iload_n 1, 1) := by decide +kernel
theorem dX6_idealShare_2 : decode cX6_idealShare 2 = .ok (.invokevirtual 123, 3) := by decide +kernel
theorem dX6_idealShare_5 : decode cX6_idealShare 5 = .ok (.aload_n 0, 1) := by decide +kernel
theorem dX6_idealShare_6 : decode cX6_idealShare 6 = .ok (.iload_n 1, 1) := by decide +kernel
theorem dX6_idealShare_7 : decode cX6_idealShare 7 = .ok (.invokevirtual 85, 3) := by decide +kernel
theorem dX6_idealShare_10 : decode cX6_idealShare 10 = .ok (.dreturn, 1) := by decide +kernel
theorem dX6_undo_0 : decode cX6_undo 0 = .ok (.aload_n 0, 1) := by decide +kernel
theorem dX6_undo_1 : decode cX6_undo 1 = .ok (.getfield 42, 3) := by decide +kernel
theorem dX6_undo_4 : decode cX6_undo 4 = .ok (.invokevirtual 217, 3) := by decide +kernel
theorem dX6_undo_7 : decode cX6_undo 7 = .ok (.ifCond .ne 13, 3) := by decide +kernel
theorem dX6_undo_10 : decode cX6_undo 10 = .ok (.new 101, 3) := by decide +kernel
theorem dX6_undo_13 : decode cX6_undo 13 = .ok (.dup, 1) := by decide +kernel
theorem dX6_undo_14 : decode cX6_undo 14 = .ok (.ldc 218, 2) := by decide +kernel
theorem dX6_undo_16 : decode cX6_undo 16 = .ok (.invokespecial 105, 3) := by decide +kernel
theorem dX6_undo_19 : decode cX6_undo 19 = .ok (.athrow, 1) := by decide +kernel
theorem dX6_undo_20 : decode cX6_undo 20 = .ok (.aload_n 0, 1) := by decide +kernel
theorem dX6_undo_21 : decode cX6_undo 21 = .ok (.getfield 42, 3) := by decide +kernel
theorem dX6_undo_24 : decode cX6_undo 24 = .ok (.aload_n 0, 1) := by decide +kernel
theorem dX6_undo_25 : decode cX6_undo 25 = .ok (.getfield 10, 3) := by decide +kernel
theorem dX6_undo_28 : decode cX6_undo 28 = .ok (.aload_n 0, 1) := by decide +kernel
theorem dX6_undo_29 : decode cX6_undo 29 = .ok (.getfield 19, 3) := by decide +kernel
theorem dX6_undo_32 : decode cX6_undo 32 = .ok (.invokevirtual 220, 3) := by decide +kernel
theorem dX6_undo_35 : decode cX6_undo 35 = .ok (.aload_n 0, 1) := by decide +kernel
theorem dX6_undo_36 : decode cX6_undo 36 = .ok (.getfield 28, 3) := by decide +kernel
theorem dX6_undo_39 : decode cX6_undo 39 = .ok (.aload_n 0, 1) := by decide +kernel
theorem dX6_undo_40 : decode cX6_undo 40 = .ok (.getfield 10, 3) := by decide +kernel
theorem dX6_undo_43 : decode cX6_undo 43 = .ok (.invokevirtual 119, 3) := by decide +kernel
theorem dX6_undo_46 : decode cX6_undo 46 = .ok (.aload_n 0, 1) := by decide +kernel
theorem dX6_undo_47 : decode cX6_undo 47 = .ok (.getfield 42, 3) := by decide +kernel
theorem dX6_undo_50 : decode cX6_undo 50 = .ok (.invokevirtual 217, 3) := by decide +kernel
theorem dX6_undo_53 : decode cX6_undo 53 = .ok (.ireturn, 1) := by decide +kernel
theorem dX6_shareOf_0 : decode cX6_shareOf 0 = .ok (.aload_n 0, 1) := by decide +kernel
theorem dX6_shareOf_1 : decode cX6_shareOf 1 = .ok (.getfield 10, 3) := by decide +kernel
theorem dX6_shareOf_4 : decode cX6_shareOf 4 = .ok (.invokevirtual 244, 3) := by decide +kernel
theorem dX6_shareOf_7 : decode cX6_shareOf 7 = .ok (.istore_n 2, 1) := by decide +kernel
theorem dX6_shareOf_8 : decode cX6_shareOf 8 = .ok (.iload_n 2, 1) := by decide +kernel
theorem dX6_shareOf_9 : decode cX6_shareOf 9 = .ok (.ifCond .le 14, 3) := by decide +kernel
theorem dX6_shareOf_12 : decode cX6_shareOf 12 = .ok (.aload_n 0, 1) := by decide +kernel
theorem dX6_shareOf_13 : decode cX6_shareOf 13 = .ok (.getfield 10, 3) := by decide +kernel
theorem dX6_shareOf_16 : decode cX6_shareOf 16 = .ok (.iload_n 1, 1) := by decide +kernel
theorem dX6_shareOf_17 : decode cX6_shareOf 17 = .ok (.invokevirtual 143, 3) := by decide +kernel
theorem dX6_shareOf_20 : decode cX6_shareOf 20 = .ok (.ifCond .ne 5, 3) := by decide +kernel
theorem dX6_shareOf_23 : decode cX6_shareOf 23 = .ok (.dconst 0, 1) := by decide +kernel
theorem dX6_shareOf_24 : decode cX6_shareOf 24 = .ok (.dreturn, 1) := by decide +kernel
theorem dX6_shareOf_25 : decode cX6_shareOf 25 = .ok (.aload_n 0, 1) := by decide +kernel
theorem dX6_shareOf_26 : decode cX6_shareOf 26 = .ok (.getfield 28, 3) := by decide +kernel
theorem dX6_shareOf_29 : decode cX6_shareOf 29 = .ok (.invokevirtual 57, 3) := by decide +kernel
theorem dX6_shareOf_32 : decode cX6_shareOf 32 = .ok (.aload_n 0, 1) := by decide +kernel
theorem dX6_shareOf_33 : decode cX6_shareOf 33 = .ok (.getfield 10, 3) := by decide +kernel
theorem dX6_shareOf_36 : decode cX6_shareOf 36 = .ok (.iload_n 1, 1) := by decide +kernel
theorem dX6_shareOf_37 : decode cX6_shareOf 37 = .ok (.invokevirtual 136, 3) := by decide +kernel
theorem dX6_shareOf_40 : decode cX6_shareOf 40 = .ok (.imul, 1) := by decide +kernel
theorem dX6_shareOf_41 : decode cX6_shareOf 41 = .ok (.i2d, 1) := by decide +kernel
theorem dX6_shareOf_42 : decode cX6_shareOf 42 = .ok (.iload_n 2, 1) := by decide +kernel
theorem dX6_shareOf_43 : decode cX6_shareOf 43 = .ok (.i2d, 1) := by decide +kernel
theorem dX6_shareOf_44 : decode cX6_shareOf 44 = .ok (.ddiv, 1) := by decide +kernel
theorem dX6_shareOf_45 : decode cX6_shareOf 45 = .ok (.dreturn, 1) := by decide +kernel
theorem k_X6_reset_46 : aKS mX6_reset mX6_isSlotCount 46 1 := ⟨cb_X6_isSlotCount, rfl, ml_X6_46, st_X6_isSlotCount, ⟨Nat.le_of_ble_eq_true rfl, Nat.le_of_ble_eq_true rfl⟩⟩
theorem k_X6_reset_57 : aKV mX6_reset mX3_size 57 0 3 := ⟨cb_X3_size, rfl, ml_X6_57, iv_X3_size, sl_X3_size, ⟨_, _, rfl⟩, ⟨Nat.le_of_ble_eq_true rfl, Nat.le_of_ble_eq_true rfl⟩⟩
theorem k_X6_reset_61 : aKV mX6_reset mX0_clear 61 0 0 := ⟨cb_X0_clear, rfl, ml_X6_61, iv_X0_clear, sl_X0_clear, ⟨_, _, rfl⟩, ⟨Nat.le_of_ble_eq_true rfl, Nat.le_of_ble_eq_true rfl⟩⟩
theorem k_X6_reset_64 : aKV mX6_reset mX2_clear 64 0 2 := ⟨cb_X2_clear, rfl, ml_X6_64, iv_X2_clear, sl_X2_clear, ⟨_, _, rfl⟩, ⟨Nat.le_of_ble_eq_true rfl, Nat.le_of_ble_eq_true rfl⟩⟩
theorem k_X6_reset_65 : aKV mX6_reset mX5_clear 65 0 5 := ⟨cb_X5_clear, rfl, ml_X6_65, iv_X5_clear, sl_X5_clear, ⟨_, _, rfl⟩, ⟨Nat.le_of_ble_eq_true rfl, Nat.le_of_ble_eq_true rfl⟩⟩
theorem k_X6_reset_66 : aKV mX6_reset mX1_clear 66 0 1 := ⟨cb_X1_clear, rfl, ml_X6_66, iv_X1_clear, sl_X1_clear, ⟨_, _, rfl⟩, ⟨Nat.le_of_ble_eq_true rfl, Nat.le_of_ble_eq_true rfl⟩⟩
theorem k_X6_reset_67 : aKV mX6_reset mX3_startAnew 67 1 3 := ⟨cb_X3_startAnew, rfl, ml_X6_67, iv_X3_startAnew, sl_X3_startAnew, ⟨_, _, rfl⟩, ⟨Nat.le_of_ble_eq_true rfl, Nat.le_of_ble_eq_true rfl⟩⟩
theorem k_X6_addServer_92 : aKS mX6_addServer mX6_checkName 92 1 := ⟨cb_X6_checkName, rfl, ml_X6_92, st_X6_checkName, ⟨Nat.le_of_ble_eq_true rfl, Nat.le_of_ble_eq_true rfl⟩⟩
theorem k_X6_addServer_95 : aKS mX6_addServer mX6_checkWeight 95 1 := ⟨cb_X6_checkWeight, rfl, ml_X6_95, st_X6_checkWeight, ⟨Nat.le_of_ble_eq_true rfl, Nat.le_of_ble_eq_true rfl⟩⟩
theorem k_X6_addServer_98 : aKV mX6_addServer mX0_find 98 1 0 := ⟨cb_X0_find, rfl, ml_X6_98, iv_X0_find, sl_X0_find, ⟨_, _, rfl⟩, ⟨Nat.le_of_ble_eq_true rfl, Nat.le_of_ble_eq_true rfl⟩⟩
theorem k_X6_addServer_106 : aKV mX6_addServer mX0_lowestFree 106 0 0 := ⟨cb_X0_lowestFree, rfl, ml_X6_106, iv_X0_lowestFree, sl_X0_lowestFree, ⟨_, _, rfl⟩, ⟨Nat.le_of_ble_eq_true rfl, Nat.le_of_ble_eq_true rfl⟩⟩
theorem k_X6_addServer_111 : aKV mX6_addServer mX1_remember 111 2 1 := ⟨cb_X1_remember, rfl, ml_X6_111, iv_X1_remember, sl_X1_remember, ⟨_, _, rfl⟩, ⟨Nat.le_of_ble_eq_true rfl, Nat.le_of_ble_eq_true rfl⟩⟩
theorem k_X6_addServer_115 : aKV mX6_addServer mX0_put 115 3 0 := ⟨cb_X0_put, rfl, ml_X6_115, iv_X0_put, sl_X0_put, ⟨_, _, rfl⟩, ⟨Nat.le_of_ble_eq_true rfl, Nat.le_of_ble_eq_true rfl⟩⟩
theorem k_X6_addServer_119 : aKV mX6_addServer mX3_rebuild 119 1 3 := ⟨cb_X3_rebuild, rfl, ml_X6_119, iv_X3_rebuild, sl_X3_rebuild, ⟨_, _, rfl⟩, ⟨Nat.le_of_ble_eq_true rfl, Nat.le_of_ble_eq_true rfl⟩⟩
theorem k_X6_removeServer_123 : aKV mX6_removeServer mX6_checkServer 123 1 6 := ⟨cb_X6_checkServer, rfl, ml_X6_123, iv_X6_checkServer, sl_X6_checkServer, ⟨_, _, rfl⟩, ⟨Nat.le_of_ble_eq_true rfl, Nat.le_of_ble_eq_true rfl⟩⟩
theorem k_X6_removeServer_126 : aKV mX6_removeServer mX0_load 126 1 0 := ⟨cb_X0_load, rfl, ml_X6_126, iv_X0_load, sl_X0_load, ⟨_, _, rfl⟩, ⟨Nat.le_of_ble_eq_true rfl, Nat.le_of_ble_eq_true rfl⟩⟩
theorem k_X6_removeServer_111 : aKV mX6_removeServer mX1_remember 111 2 1 := ⟨cb_X1_remember, rfl, ml_X6_111, iv_X1_remember, sl_X1_remember, ⟨_, _, rfl⟩, ⟨Nat.le_of_ble_eq_true rfl, Nat.le_of_ble_eq_true rfl⟩⟩
theorem k_X6_removeServer_130 : aKV mX6_removeServer mX0_drop 130 1 0 := ⟨cb_X0_drop, rfl, ml_X6_130, iv_X0_drop, sl_X0_drop, ⟨_, _, rfl⟩, ⟨Nat.le_of_ble_eq_true rfl, Nat.le_of_ble_eq_true rfl⟩⟩
theorem k_X6_removeServer_133 : aKV mX6_removeServer mX2_dropServer 133 1 2 := ⟨cb_X2_dropServer, rfl, ml_X6_133, iv_X2_dropServer, sl_X2_dropServer, ⟨_, _, rfl⟩, ⟨Nat.le_of_ble_eq_true rfl, Nat.le_of_ble_eq_true rfl⟩⟩
theorem k_X6_removeServer_119 : aKV mX6_removeServer mX3_rebuild 119 1 3 := ⟨cb_X3_rebuild, rfl, ml_X6_119, iv_X3_rebuild, sl_X3_rebuild, ⟨_, _, rfl⟩, ⟨Nat.le_of_ble_eq_true rfl, Nat.le_of_ble_eq_true rfl⟩⟩
theorem k_X6_setWeight_123 : aKV mX6_setWeight mX6_checkServer 123 1 6 := ⟨cb_X6_checkServer, rfl, ml_X6_123, iv_X6_checkServer, sl_X6_checkServer, ⟨_, _, rfl⟩, ⟨Nat.le_of_ble_eq_true rfl, Nat.le_of_ble_eq_true rfl⟩⟩
theorem k_X6_setWeight_95 : aKS mX6_setWeight mX6_checkWeight 95 1 := ⟨cb_X6_checkWeight, rfl, ml_X6_95, st_X6_checkWeight, ⟨Nat.le_of_ble_eq_true rfl, Nat.le_of_ble_eq_true rfl⟩⟩
theorem k_X6_setWeight_136 : aKV mX6_setWeight mX0_weight 136 1 0 := ⟨cb_X0_weight, rfl, ml_X6_136, iv_X0_weight, sl_X0_weight, ⟨_, _, rfl⟩, ⟨Nat.le_of_ble_eq_true rfl, Nat.le_of_ble_eq_true rfl⟩⟩
theorem k_X6_setWeight_111 : aKV mX6_setWeight mX1_remember 111 2 1 := ⟨cb_X1_remember, rfl, ml_X6_111, iv_X1_remember, sl_X1_remember, ⟨_, _, rfl⟩, ⟨Nat.le_of_ble_eq_true rfl, Nat.le_of_ble_eq_true rfl⟩⟩
theorem k_X6_setWeight_139 : aKV mX6_setWeight mX0_changeWeight 139 2 0 := ⟨cb_X0_changeWeight, rfl, ml_X6_139, iv_X0_changeWeight, sl_X0_changeWeight, ⟨_, _, rfl⟩, ⟨Nat.le_of_ble_eq_true rfl, Nat.le_of_ble_eq_true rfl⟩⟩
theorem k_X6_setWeight_119 : aKV mX6_setWeight mX3_rebuild 119 1 3 := ⟨cb_X3_rebuild, rfl, ml_X6_119, iv_X3_rebuild, sl_X3_rebuild, ⟨_, _, rfl⟩, ⟨Nat.le_of_ble_eq_true rfl, Nat.le_of_ble_eq_true rfl⟩⟩
theorem k_X6_setUp_123 : aKV mX6_setUp mX6_checkServer 123 1 6 := ⟨cb_X6_checkServer, rfl, ml_X6_123, iv_X6_checkServer, sl_X6_checkServer, ⟨_, _, rfl⟩, ⟨Nat.le_of_ble_eq_true rfl, Nat.le_of_ble_eq_true rfl⟩⟩
theorem k_X6_setUp_143 : aKV mX6_setUp mX0_isUp 143 1 0 := ⟨cb_X0_isUp, rfl, ml_X6_143, iv_X0_isUp, sl_X0_isUp, ⟨_, _, rfl⟩, ⟨Nat.le_of_ble_eq_true rfl, Nat.le_of_ble_eq_true rfl⟩⟩
theorem k_X6_setUp_111 : aKV mX6_setUp mX1_remember 111 2 1 := ⟨cb_X1_remember, rfl, ml_X6_111, iv_X1_remember, sl_X1_remember, ⟨_, _, rfl⟩, ⟨Nat.le_of_ble_eq_true rfl, Nat.le_of_ble_eq_true rfl⟩⟩
theorem k_X6_setUp_146 : aKV mX6_setUp mX0_changeUp 146 2 0 := ⟨cb_X0_changeUp, rfl, ml_X6_146, iv_X0_changeUp, sl_X0_changeUp, ⟨_, _, rfl⟩, ⟨Nat.le_of_ble_eq_true rfl, Nat.le_of_ble_eq_true rfl⟩⟩
theorem k_X6_setUp_119 : aKV mX6_setUp mX3_rebuild 119 1 3 := ⟨cb_X3_rebuild, rfl, ml_X6_119, iv_X3_rebuild, sl_X3_rebuild, ⟨_, _, rfl⟩, ⟨Nat.le_of_ble_eq_true rfl, Nat.le_of_ble_eq_true rfl⟩⟩
theorem k_X6_undo_217 : aKV mX6_undo mX1_size 217 0 1 := ⟨cb_X1_size, rfl, ml_X6_217, iv_X1_size, sl_X1_size, ⟨_, _, rfl⟩, ⟨Nat.le_of_ble_eq_true rfl, Nat.le_of_ble_eq_true rfl⟩⟩
theorem k_X6_undo_220 : aKV mX6_undo mX1_bringBack 220 2 1 := ⟨cb_X1_bringBack, rfl, ml_X6_220, iv_X1_bringBack, sl_X1_bringBack, ⟨_, _, rfl⟩, ⟨Nat.le_of_ble_eq_true rfl, Nat.le_of_ble_eq_true rfl⟩⟩
theorem k_X6_undo_119 : aKV mX6_undo mX3_rebuild 119 1 3 := ⟨cb_X3_rebuild, rfl, ml_X6_119, iv_X3_rebuild, sl_X3_rebuild, ⟨_, _, rfl⟩, ⟨Nat.le_of_ble_eq_true rfl, Nat.le_of_ble_eq_true rfl⟩⟩
theorem k_X6_shareOf_244 : aKV mX6_shareOf mX0_weightSum 244 0 0 := ⟨cb_X0_weightSum, rfl, ml_X6_244, iv_X0_weightSum, sl_X0_weightSum, ⟨_, _, rfl⟩, ⟨Nat.le_of_ble_eq_true rfl, Nat.le_of_ble_eq_true rfl⟩⟩
theorem k_X6_shareOf_143 : aKV mX6_shareOf mX0_isUp 143 1 0 := ⟨cb_X0_isUp, rfl, ml_X6_143, iv_X0_isUp, sl_X0_isUp, ⟨_, _, rfl⟩, ⟨Nat.le_of_ble_eq_true rfl, Nat.le_of_ble_eq_true rfl⟩⟩
theorem k_X6_shareOf_57 : aKV mX6_shareOf mX3_size 57 0 3 := ⟨cb_X3_size, rfl, ml_X6_57, iv_X3_size, sl_X3_size, ⟨_, _, rfl⟩, ⟨Nat.le_of_ble_eq_true rfl, Nat.le_of_ble_eq_true rfl⟩⟩
theorem k_X6_shareOf_136 : aKV mX6_shareOf mX0_weight 136 1 0 := ⟨cb_X0_weight, rfl, ml_X6_136, iv_X0_weight, sl_X0_weight, ⟨_, _, rfl⟩, ⟨Nat.le_of_ble_eq_true rfl, Nat.le_of_ble_eq_true rfl⟩⟩
theorem k_X6_idealShare_123 : aKV mX6_idealShare mX6_checkServer 123 1 6 := ⟨cb_X6_checkServer, rfl, ml_X6_123, iv_X6_checkServer, sl_X6_checkServer, ⟨_, _, rfl⟩, ⟨Nat.le_of_ble_eq_true rfl, Nat.le_of_ble_eq_true rfl⟩⟩
theorem k_X6_idealShare_85 : aKV mX6_idealShare mX6_shareOf 85 1 6 := ⟨cb_X6_shareOf, rfl, ml_X6_85, iv_X6_shareOf, sl_X6_shareOf, ⟨_, _, rfl⟩, ⟨Nat.le_of_ble_eq_true rfl, Nat.le_of_ble_eq_true rfl⟩⟩
theorem k_X6_imbalance_85 : aKV mX6_imbalance mX6_shareOf 85 1 6 := ⟨cb_X6_shareOf, rfl, ml_X6_85, iv_X6_shareOf, sl_X6_shareOf, ⟨_, _, rfl⟩, ⟨Nat.le_of_ble_eq_true rfl, Nat.le_of_ble_eq_true rfl⟩⟩
theorem k_X6_imbalance_89 : aKV mX6_imbalance mX3_ownedBy 89 1 3 := ⟨cb_X3_ownedBy, rfl, ml_X6_89, iv_X3_ownedBy, sl_X3_ownedBy, ⟨_, _, rfl⟩, ⟨Nat.le_of_ble_eq_true rfl, Nat.le_of_ble_eq_true rfl⟩⟩
/-! ===== PreferenceTable: changes ===== -/
def fCN (t : fT) : fT := (fFl 10 (fun _ => 0) t.1, t.2)
def bAn (n : Nat) (b : bT) : bT := (n, fFl 61 (fun _ => -1) b.2.1, b.2.2.1, b.2.2.2.1, 0, 0)
theorem sCN_ok {s t : fT} (hs : fOk s) : fOk (sCN s t) := by
  refine ⟨fun j hj => ?_, fun j hj => ?_, hs.2.2⟩
  · show fFl 10 s.1 t.1 j ≤ 9999
    unfold fFl; rw [if_pos hj]; exact hs.1 j hj
  · show fFl 10 s.2.1 t.2.1 j ≤ 16
    unfold fFl; rw [if_pos hj]; exact hs.2.1 j hj
section PT5
variable {l : Launch} {X : aX} {t : fT} {b : bT} {k : kT} {y : hT}
theorem c_X6_reset_bad (hl : l.stackTraces = false) (hX : aXok X) (s : Int32) (hg : gSc s = false) : aMt l X mX6_reset [0] [.ref 0, .int s] (aPT t b k y) (fun o h' => o = .inr IAE ∧ h' = aPT t b k y) := by
  refine aMt.of (by decide) rfl (Nat.le_of_ble_eq_true rfl) ?_
  have hsc := c_X6_isSlotCount (l := l) hX s
  rw [hg] at hsc
  refine a_iload_n dX6_reset_0 rfl ?_
  refine a_SiR [] k_X6_reset_46 (hsc) dX6_reset_1 rfl rfl rfl rfl rfl (Nat.le_of_ble_eq_true rfl) ⟨Nat.le_of_ble_eq_true rfl, Nat.le_of_ble_eq_true rfl⟩ ⟨rfl, rfl⟩ ?_
  refine a_if_ne 17 dX6_reset_4 (by decide) (fun z => absurd rfl z) (fun _ => ?_)
  refine a_throw hl tw_54 tx_X6_52 rfl dX6_reset_7 dX6_reset_10 dX6_reset_11 dX6_reset_13 dX6_reset_16 ⟨Nat.le_of_ble_eq_true rfl, Nat.le_of_ble_eq_true rfl⟩ (Nat.le_of_ble_eq_true rfl) (Nat.le_of_ble_eq_true rfl) ?_
  exact ⟨rfl, rfl⟩
theorem c_X6_reset_ok (hX : aXok X) (n : Nat) (hn : n ≤ 61) (hg : gSc (nI n) = true) : aMt l X mX6_reset [0] [.ref 0, .int (nI n)] (aPT t b k y) (fun o h' => o = .inl (some (.int (nI b.1))) ∧ h' = aPT (fClr t) (bAn n b) (k.1, 0) (0, y.2)) := by
  refine aMt.of (by decide) rfl (Nat.le_of_ble_eq_true rfl) ?_
  have hsc := c_X6_isSlotCount (l := l) hX (nI n)
  rw [hg] at hsc
  refine a_iload_n dX6_reset_0 rfl ?_
  refine a_SiR [] k_X6_reset_46 (hsc) dX6_reset_1 rfl rfl rfl rfl rfl (Nat.le_of_ble_eq_true rfl) ⟨Nat.le_of_ble_eq_true rfl, Nat.le_of_ble_eq_true rfl⟩ ⟨rfl, rfl⟩ ?_
  refine a_if_ne 17 dX6_reset_4 (by decide) (fun _ => ?_) (fun z => absurd z (by decide))
  refine a_aload_n dX6_reset_17 rfl ?_
  refine a_get fl_X6_28 dX6_reset_18 rfl rfl ?_
  refine a_ViR [9, 10, 11, 12] k_X6_reset_57 (c_X3_size (M := b.1) (ow := b.2.1) (dr := b.2.2.1) (tr := b.2.2.2.1) (ch := b.2.2.2.2.1) (fo := b.2.2.2.2.2)) dX6_reset_21 rfl rfl rfl rfl rfl rfl (Nat.le_of_ble_eq_true rfl) ⟨Nat.le_of_ble_eq_true rfl, Nat.le_of_ble_eq_true rfl⟩ ⟨rfl, rfl⟩ ?_
  refine a_istore_n dX6_reset_24 (by decide) rfl ?_
  refine a_aload_n dX6_reset_25 rfl ?_
  refine a_get fl_X6_10 dX6_reset_26 rfl rfl ?_
  refine a_VvW [1, 2, 3, 4, 5] (aPT (fCN t) b k y) k_X6_reset_61 (n_clear (t := t)) dX6_reset_29 rfl rfl rfl rfl rfl rfl (Nat.le_of_ble_eq_true rfl) ⟨Nat.le_of_ble_eq_true rfl, Nat.le_of_ble_eq_true rfl⟩ ⟨rfl, rfl⟩ (Nat.le_of_ble_eq_true rfl) rfl ?_
  refine a_aload_n dX6_reset_32 rfl ?_
  refine a_get fl_X6_19 dX6_reset_33 rfl rfl ?_
  refine a_VvW [6, 7, 8] (aPT (fClr t) b k y) k_X6_reset_64 (c_X2_clear (pk := t.2.2.2.2.1) (ps := t.2.2.2.2.2.1) (m := t.2.2.2.2.2.2)) dX6_reset_36 rfl rfl rfl rfl rfl rfl (Nat.le_of_ble_eq_true rfl) ⟨Nat.le_of_ble_eq_true rfl, Nat.le_of_ble_eq_true rfl⟩ ⟨rfl, rfl⟩ (Nat.le_of_ble_eq_true rfl) rfl ?_
  refine a_aload_n dX6_reset_39 rfl ?_
  refine a_get fl_X6_35 dX6_reset_40 rfl rfl ?_
  refine a_VvW [13, 14, 15, 16] (aPT (fClr t) b (k.1, 0) y) k_X6_reset_65 (c_X5_clear (tk := k.1.1) (tc := k.1.2.1) (te := k.1.2.2) (m := k.2)) dX6_reset_43 rfl rfl rfl rfl rfl rfl (Nat.le_of_ble_eq_true rfl) ⟨Nat.le_of_ble_eq_true rfl, Nat.le_of_ble_eq_true rfl⟩ ⟨rfl, rfl⟩ (Nat.le_of_ble_eq_true rfl) rfl ?_
  refine a_aload_n dX6_reset_46 rfl ?_
  refine a_get fl_X6_42 dX6_reset_47 rfl rfl ?_
  refine a_VvW [17, 18, 19, 20, 21, 22, 23, 24, 25, 26, 27, 28, 29, 30, 31, 32, 33, 34, 35, 36, 37, 38, 39, 40, 41, 42, 43, 44, 45, 46, 47, 48, 49, 50, 51, 52, 53, 54] (aPT (fClr t) b (k.1, 0) (0, y.2)) k_X6_reset_66 (c_X1_clear (z := y.1) (s0 := cS y.2.1) (s1 := cS y.2.2.1) (s2 := cS y.2.2.2.1) (s3 := cS y.2.2.2.2)) dX6_reset_50 rfl rfl rfl rfl rfl rfl (Nat.le_of_ble_eq_true rfl) ⟨Nat.le_of_ble_eq_true rfl, Nat.le_of_ble_eq_true rfl⟩ ⟨rfl, rfl⟩ (Nat.le_of_ble_eq_true rfl) rfl ?_
  refine a_aload_n dX6_reset_53 rfl ?_
  refine a_get fl_X6_28 dX6_reset_54 rfl rfl ?_
  refine a_iload_n dX6_reset_57 rfl ?_
  refine a_VvW [9, 10, 11, 12] (aPT (fClr t) (bAn n b) (k.1, 0) (0, y.2)) k_X6_reset_67 (c_X3_startAnew (M := b.1) (ow := b.2.1) (dr := b.2.2.1) (tr := b.2.2.2.1) (ch := b.2.2.2.2.1) (fo := b.2.2.2.2.2) n hn) dX6_reset_58 rfl rfl rfl rfl rfl rfl (Nat.le_of_ble_eq_true rfl) ⟨Nat.le_of_ble_eq_true rfl, Nat.le_of_ble_eq_true rfl⟩ ⟨rfl, rfl⟩ (Nat.le_of_ble_eq_true rfl) rfl ?_
  refine a_iload_n dX6_reset_61 rfl ?_
  refine a_iret rfl dX6_reset_62 (by decide) (by decide) ?_
  exact ⟨rfl, rfl⟩
theorem c_X6_addServer_iae (hl : l.stackTraces = false) (n w : Int32) (hg : (gNm n && gWt w) = false) : aMt l X mX6_addServer [0] [.ref 0, .int n, .int w] (aPT t b k y) (fun o h' => o = .inr IAE ∧ h' = aPT t b k y) := by
  refine aMt.of (by decide) rfl (Nat.le_of_ble_eq_true rfl) ?_
  have hcn := c_X6_checkName (X := X) hl n
  by_cases h1 : gNm n = true
  · rw [if_pos h1] at hcn
    have h2 : ¬ gWt w = true := by intro z; rw [h1, z] at hg; cases hg
    have hcw := c_X6_checkWeight (X := X) hl w
    rw [if_neg h2] at hcw
    refine a_iload_n dX6_addServer_0 rfl ?_
    refine a_Sr [] k_X6_addServer_92 (hcn) dX6_addServer_1 rfl rfl rfl rfl rfl (Nat.le_of_ble_eq_true rfl) ⟨Nat.le_of_ble_eq_true rfl, Nat.le_of_ble_eq_true rfl⟩ ?_
    refine a_iload_n dX6_addServer_4 rfl ?_
    refine a_Sx [] k_X6_addServer_95 (hcw) dX6_addServer_5 rfl rfl rfl rfl rfl (Nat.le_of_ble_eq_true rfl) ⟨Nat.le_of_ble_eq_true rfl, Nat.le_of_ble_eq_true rfl⟩ rfl ?_
    exact ⟨rfl, rfl⟩
  · rw [if_neg h1] at hcn
    refine a_iload_n dX6_addServer_0 rfl ?_
    refine a_Sx [] k_X6_addServer_92 (hcn) dX6_addServer_1 rfl rfl rfl rfl rfl (Nat.le_of_ble_eq_true rfl) ⟨Nat.le_of_ble_eq_true rfl, Nat.le_of_ble_eq_true rfl⟩ rfl ?_
    exact ⟨rfl, rfl⟩
theorem c_X6_addServer_ise (hl : l.stackTraces = false) (n w : Int32) (hg : (gNm n && gWt w) = true) (hh : ¬ fFn (cS t).1 n = -1 ∨ fFn (cS t).1 0 = -1) : aMt l X mX6_addServer [0] [.ref 0, .int n, .int w] (aPT t b k y) (fun o h' => o = .inr ISE ∧ h' = aPT t b k y) := by
  refine aMt.of (by decide) rfl (Nat.le_of_ble_eq_true rfl) ?_
  rw [Bool.and_eq_true] at hg
  have hcn := c_X6_checkName (X := X) hl n
  have hcw := c_X6_checkWeight (X := X) hl w
  rw [if_pos hg.1] at hcn
  rw [if_pos hg.2] at hcw
  refine a_iload_n dX6_addServer_0 rfl ?_
  refine a_Sr [] k_X6_addServer_92 (hcn) dX6_addServer_1 rfl rfl rfl rfl rfl (Nat.le_of_ble_eq_true rfl) ⟨Nat.le_of_ble_eq_true rfl, Nat.le_of_ble_eq_true rfl⟩ ?_
  refine a_iload_n dX6_addServer_4 rfl ?_
  refine a_Sr [] k_X6_addServer_95 (hcw) dX6_addServer_5 rfl rfl rfl rfl rfl (Nat.le_of_ble_eq_true rfl) ⟨Nat.le_of_ble_eq_true rfl, Nat.le_of_ble_eq_true rfl⟩ ?_
  refine a_aload_n dX6_addServer_8 rfl ?_
  refine a_get fl_X6_10 dX6_addServer_9 rfl rfl ?_
  refine a_iload_n dX6_addServer_12 rfl ?_
  refine a_ViR [1, 2, 3, 4, 5] k_X6_addServer_98 (c_X0_find (nm := (cS t).1) (wt := (cS t).2.1) (up := (cS t).2.2.1) (ld := (cS t).2.2.2.1) n) dX6_addServer_13 rfl rfl rfl rfl rfl rfl (Nat.le_of_ble_eq_true rfl) ⟨Nat.le_of_ble_eq_true rfl, Nat.le_of_ble_eq_true rfl⟩ ⟨rfl, rfl⟩ ?_
  refine a_iconst (-1) dX6_addServer_16 (by decide) ?_
  refine a_icmp_eq 30 dX6_addServer_17 (by decide) (fun c17 => ?_) (fun c17 => ?_)
  · refine a_aload_n dX6_addServer_30 rfl ?_
    refine a_get fl_X6_10 dX6_addServer_31 rfl rfl ?_
    refine a_ViR [1, 2, 3, 4, 5] k_X6_addServer_106 (c_X0_lowestFree (nm := (cS t).1) (wt := (cS t).2.1) (up := (cS t).2.2.1) (ld := (cS t).2.2.2.1)) dX6_addServer_34 rfl rfl rfl rfl rfl rfl (Nat.le_of_ble_eq_true rfl) ⟨Nat.le_of_ble_eq_true rfl, Nat.le_of_ble_eq_true rfl⟩ ⟨rfl, rfl⟩ ?_
    refine a_istore_n dX6_addServer_37 (by decide) rfl ?_
    refine a_iload_n dX6_addServer_38 rfl ?_
    refine a_iconst (-1) dX6_addServer_39 (by decide) ?_
    refine a_icmp_ne 53 dX6_addServer_40 (by decide) (fun c40 => ?_) (fun c40 => ?_)
    · rcases hh with hh | hh
      · exact absurd c17 hh
      · exact absurd hh c40
    · refine a_throw hl tw_105 tx_X6_109 rfl dX6_addServer_43 dX6_addServer_46 dX6_addServer_47 dX6_addServer_49 dX6_addServer_52 ⟨Nat.le_of_ble_eq_true rfl, Nat.le_of_ble_eq_true rfl⟩ (Nat.le_of_ble_eq_true rfl) (Nat.le_of_ble_eq_true rfl) ?_
      exact ⟨rfl, rfl⟩
  · refine a_throw hl tw_105 tx_X6_103 rfl dX6_addServer_20 dX6_addServer_23 dX6_addServer_24 dX6_addServer_26 dX6_addServer_29 ⟨Nat.le_of_ble_eq_true rfl, Nat.le_of_ble_eq_true rfl⟩ (Nat.le_of_ble_eq_true rfl) (Nat.le_of_ble_eq_true rfl) ?_
    exact ⟨rfl, rfl⟩
theorem c_X6_addServer_ok (hl : l.stackTraces = false) (ht : fOk t) (hb : bOk b) (hy : y.1 ≤ 4) (n w i : Nat) (hg : (gNm (nI n) && gWt (nI w)) = true) (hn : n ≤ 9999) (hw : w ≤ 16) (hi : i < 10) (h1 : fFn (cS t).1 (nI n) = -1) (h2 : fFn (cS t).1 0 = nI i) : aMt l X mX6_addServer [0] [.ref 0, .int (nI n), .int (nI w)] (aPT t b k y) (fun o h' => o = .inl (some (.int (nI i))) ∧ h' = aPT (fPut t i n w) (bRb (fPut t i n w) b) k (yRm t y)) := by
  refine aMt.of (by decide) rfl (Nat.le_of_ble_eq_true rfl) ?_
  rw [Bool.and_eq_true] at hg
  have hcn := c_X6_checkName (X := X) hl (nI n)
  have hcw := c_X6_checkWeight (X := X) hl (nI w)
  rw [if_pos hg.1] at hcn
  rw [if_pos hg.2] at hcw
  have hfd := c_X0_find (l := l) (X := X) (nm := (cS t).1) (wt := (cS t).2.1) (up := (cS t).2.2.1) (ld := (cS t).2.2.2.1) (nI n)
  rw [h1] at hfd
  have hlf := c_X0_lowestFree (l := l) (X := X) (nm := (cS t).1) (wt := (cS t).2.1) (up := (cS t).2.2.1) (ld := (cS t).2.2.2.1)
  rw [h2] at hlf
  refine a_iload_n dX6_addServer_0 rfl ?_
  refine a_Sr [] k_X6_addServer_92 (hcn) dX6_addServer_1 rfl rfl rfl rfl rfl (Nat.le_of_ble_eq_true rfl) ⟨Nat.le_of_ble_eq_true rfl, Nat.le_of_ble_eq_true rfl⟩ ?_
  refine a_iload_n dX6_addServer_4 rfl ?_
  refine a_Sr [] k_X6_addServer_95 (hcw) dX6_addServer_5 rfl rfl rfl rfl rfl (Nat.le_of_ble_eq_true rfl) ⟨Nat.le_of_ble_eq_true rfl, Nat.le_of_ble_eq_true rfl⟩ ?_
  refine a_aload_n dX6_addServer_8 rfl ?_
  refine a_get fl_X6_10 dX6_addServer_9 rfl rfl ?_
  refine a_iload_n dX6_addServer_12 rfl ?_
  refine a_ViR [1, 2, 3, 4, 5] k_X6_addServer_98 (hfd) dX6_addServer_13 rfl rfl rfl rfl rfl rfl (Nat.le_of_ble_eq_true rfl) ⟨Nat.le_of_ble_eq_true rfl, Nat.le_of_ble_eq_true rfl⟩ ⟨rfl, rfl⟩ ?_
  refine a_iconst (-1) dX6_addServer_16 (by decide) ?_
  refine a_icmp_eq 30 dX6_addServer_17 (by decide) (fun _ => ?_) (fun z => absurd rfl z)
  refine a_aload_n dX6_addServer_30 rfl ?_
  refine a_get fl_X6_10 dX6_addServer_31 rfl rfl ?_
  refine a_ViR [1, 2, 3, 4, 5] k_X6_addServer_106 (hlf) dX6_addServer_34 rfl rfl rfl rfl rfl rfl (Nat.le_of_ble_eq_true rfl) ⟨Nat.le_of_ble_eq_true rfl, Nat.le_of_ble_eq_true rfl⟩ ⟨rfl, rfl⟩ ?_
  refine a_istore_n dX6_addServer_37 (by decide) rfl ?_
  refine a_iload_n dX6_addServer_38 rfl ?_
  refine a_iconst (-1) dX6_addServer_39 (by decide) ?_
  refine a_icmp_ne 53 dX6_addServer_40 (by decide) (fun _ => ?_) (fun z => absurd z (nI_m1 (by omega)))
  refine a_aload_n dX6_addServer_53 rfl ?_
  refine a_get fl_X6_42 dX6_addServer_54 rfl rfl ?_
  refine a_aload_n dX6_addServer_57 rfl ?_
  refine a_get fl_X6_10 dX6_addServer_58 rfl rfl ?_
  refine a_aload_n dX6_addServer_61 rfl ?_
  refine a_get fl_X6_19 dX6_addServer_62 rfl rfl ?_
  refine a_VvW [17, 18, 19, 20, 21, 22, 23, 24, 25, 26, 27, 28, 29, 30, 31, 32, 33, 34, 35, 36, 37, 38, 39, 40, 41, 42, 43, 44, 45, 46, 47, 48, 49, 50, 51, 52, 53, 54, 1, 2, 3, 4, 5, 6, 7, 8] (aPT t b k (yRm t y)) k_X6_addServer_111 (n_remember (t := t) hy) dX6_addServer_65 rfl rfl rfl rfl rfl rfl (Nat.le_of_ble_eq_true rfl) ⟨Nat.le_of_ble_eq_true rfl, Nat.le_of_ble_eq_true rfl⟩ ⟨rfl, rfl⟩ (Nat.le_of_ble_eq_true rfl) rfl ?_
  refine a_aload_n dX6_addServer_68 rfl ?_
  refine a_get fl_X6_10 dX6_addServer_69 rfl rfl ?_
  refine a_iload_n dX6_addServer_72 rfl ?_
  refine a_iload_n dX6_addServer_73 rfl ?_
  refine a_iload_n dX6_addServer_74 rfl ?_
  refine a_VvW [1, 2, 3, 4, 5] (aPT (fPut t i n w) b k (yRm t y)) k_X6_addServer_115 (n_put (t := t) i n w hi) dX6_addServer_75 rfl rfl rfl rfl rfl rfl (Nat.le_of_ble_eq_true rfl) ⟨Nat.le_of_ble_eq_true rfl, Nat.le_of_ble_eq_true rfl⟩ ⟨rfl, rfl⟩ (Nat.le_of_ble_eq_true rfl) rfl ?_
  refine a_aload_n dX6_addServer_78 rfl ?_
  refine a_get fl_X6_28 dX6_addServer_79 rfl rfl ?_
  refine a_aload_n dX6_addServer_82 rfl ?_
  refine a_get fl_X6_10 dX6_addServer_83 rfl rfl ?_
  refine a_VvW [9, 10, 11, 12, 1, 2, 3, 4, 5] (aPT (fPut t i n w) (bRb (fPut t i n w) b) k (yRm t y)) k_X6_addServer_119 (n_rebuild (b := b) (fPut_ok (i := i) ht hn hw) hb) dX6_addServer_86 rfl rfl rfl rfl rfl rfl (Nat.le_of_ble_eq_true rfl) ⟨Nat.le_of_ble_eq_true rfl, Nat.le_of_ble_eq_true rfl⟩ ⟨rfl, rfl⟩ (Nat.le_of_ble_eq_true rfl) rfl ?_
  refine a_iload_n dX6_addServer_89 rfl ?_
  refine a_iret rfl dX6_addServer_90 (by decide) (by decide) ?_
  exact ⟨rfl, rfl⟩
abbrev pNs (t : fT) (s : Int32) : pT := pKe (fun _ k => decide (¬ k = s)) t.2.2.2.2.1 t.2.2.2.2.2.1 t.2.2.2.2.2.2
abbrev fRmv (t : fT) (i : Nat) : fT := fPin (fDrp t i) (pNs t (nI i))
theorem fRmv_ok {t : fT} {i : Nat} (ht : fOk t) : fOk (fRmv t i) := by
  refine fPin_ok (fDrp_ok ht) ?_
  have := pKe_le (fun _ k => decide (¬ k = nI i)) t.2.2.2.2.2.2 0 (t.2.2.2.2.1, t.2.2.2.2.2.1, 0) (Nat.le_refl _)
  have h6 := ht.2.2
  unfold pNs pKe
  omega
theorem c_X6_removeServer_bad (hl : l.stackTraces = false) (s : Int32) (hg : fHs (cS t).1 s = false) : aMt l X mX6_removeServer [0] [.ref 0, .int s] (aPT t b k y) (fun o h' => o = .inr IAE ∧ h' = aPT t b k y) := by
  refine aMt.of (by decide) rfl (Nat.le_of_ble_eq_true rfl) ?_
  have hck := c_X6_checkServer (X := X) (t := t) (b := b) (k := k) (y := y) hl s
  rw [hg] at hck
  refine a_aload_n dX6_removeServer_0 rfl ?_
  refine a_iload_n dX6_removeServer_1 rfl ?_
  refine a_Vx is55 k_X6_removeServer_123 (hck) dX6_removeServer_2 rfl rfl rfl rfl rfl rfl (Nat.le_of_ble_eq_true rfl) ⟨Nat.le_of_ble_eq_true rfl, Nat.le_of_ble_eq_true rfl⟩ rfl ?_
  exact ⟨rfl, rfl⟩
theorem c_X6_removeServer_ok (hl : l.stackTraces = false) (ht : fOk t) (hb : bOk b) (hy : y.1 ≤ 4) (i : Nat) (hi : i < 10) (hg : fHs (cS t).1 (nI i) = true) : aMt l X mX6_removeServer [0] [.ref 0, .int (nI i)] (aPT t b k y) (fun o h' => o = .inl (some (.long (t.2.2.2.1 i))) ∧ h' = aPT (fRmv t i) (bRb (fRmv t i) b) k (yRm t y)) := by
  refine aMt.of (by decide) rfl (Nat.le_of_ble_eq_true rfl) ?_
  have hck := c_X6_checkServer (X := X) (t := t) (b := b) (k := k) (y := y) hl (nI i)
  rw [if_pos hg] at hck
  have hld := c_X0_load (l := l) (X := X) (nm := (cS t).1) (wt := (cS t).2.1) (up := (cS t).2.2.1) (ld := (cS t).2.2.2.1) (nI i)
  rw [if_pos hg, cl10 hi] at hld
  refine a_aload_n dX6_removeServer_0 rfl ?_
  refine a_iload_n dX6_removeServer_1 rfl ?_
  refine a_Vr is55 k_X6_removeServer_123 (hck) dX6_removeServer_2 rfl rfl rfl rfl rfl rfl (Nat.le_of_ble_eq_true rfl) ⟨Nat.le_of_ble_eq_true rfl, Nat.le_of_ble_eq_true rfl⟩ ?_
  refine a_aload_n dX6_removeServer_5 rfl ?_
  refine a_get fl_X6_10 dX6_removeServer_6 rfl rfl ?_
  refine a_iload_n dX6_removeServer_9 rfl ?_
  refine a_VlR [1, 2, 3, 4, 5] k_X6_removeServer_126 (hld) dX6_removeServer_10 rfl rfl rfl rfl rfl rfl (Nat.le_of_ble_eq_true rfl) ⟨Nat.le_of_ble_eq_true rfl, Nat.le_of_ble_eq_true rfl⟩ ⟨rfl, rfl⟩ ?_
  refine a_lstore_n dX6_removeServer_13 (by decide) rfl ?_
  refine a_aload_n dX6_removeServer_14 rfl ?_
  refine a_get fl_X6_42 dX6_removeServer_15 rfl rfl ?_
  refine a_aload_n dX6_removeServer_18 rfl ?_
  refine a_get fl_X6_10 dX6_removeServer_19 rfl rfl ?_
  refine a_aload_n dX6_removeServer_22 rfl ?_
  refine a_get fl_X6_19 dX6_removeServer_23 rfl rfl ?_
  refine a_VvW [17, 18, 19, 20, 21, 22, 23, 24, 25, 26, 27, 28, 29, 30, 31, 32, 33, 34, 35, 36, 37, 38, 39, 40, 41, 42, 43, 44, 45, 46, 47, 48, 49, 50, 51, 52, 53, 54, 1, 2, 3, 4, 5, 6, 7, 8] (aPT t b k (yRm t y)) k_X6_removeServer_111 (n_remember (t := t) hy) dX6_removeServer_26 rfl rfl rfl rfl rfl rfl (Nat.le_of_ble_eq_true rfl) ⟨Nat.le_of_ble_eq_true rfl, Nat.le_of_ble_eq_true rfl⟩ ⟨rfl, rfl⟩ (Nat.le_of_ble_eq_true rfl) rfl ?_
  refine a_aload_n dX6_removeServer_29 rfl ?_
  refine a_get fl_X6_10 dX6_removeServer_30 rfl rfl ?_
  refine a_iload_n dX6_removeServer_33 rfl ?_
  refine a_VvW [1, 2, 3, 4, 5] (aPT (fDrp t i) b k (yRm t y)) k_X6_removeServer_130 (n_drop (t := t) i hi) dX6_removeServer_34 rfl rfl rfl rfl rfl rfl (Nat.le_of_ble_eq_true rfl) ⟨Nat.le_of_ble_eq_true rfl, Nat.le_of_ble_eq_true rfl⟩ ⟨rfl, rfl⟩ (Nat.le_of_ble_eq_true rfl) rfl ?_
  refine a_aload_n dX6_removeServer_37 rfl ?_
  refine a_get fl_X6_19 dX6_removeServer_38 rfl rfl ?_
  refine a_iload_n dX6_removeServer_41 rfl ?_
  refine a_VvW [6, 7, 8] (aPT (fRmv t i) b k (yRm t y)) k_X6_removeServer_133 (c_X2_dropServer (pk := t.2.2.2.2.1) (ps := t.2.2.2.2.2.1) ht.2.2 (nI i)) dX6_removeServer_42 rfl rfl rfl rfl rfl rfl (Nat.le_of_ble_eq_true rfl) ⟨Nat.le_of_ble_eq_true rfl, Nat.le_of_ble_eq_true rfl⟩ ⟨rfl, rfl⟩ (Nat.le_of_ble_eq_true rfl) rfl ?_
  refine a_aload_n dX6_removeServer_45 rfl ?_
  refine a_get fl_X6_28 dX6_removeServer_46 rfl rfl ?_
  refine a_aload_n dX6_removeServer_49 rfl ?_
  refine a_get fl_X6_10 dX6_removeServer_50 rfl rfl ?_
  refine a_VvW [9, 10, 11, 12, 1, 2, 3, 4, 5] (aPT (fRmv t i) (bRb (fRmv t i) b) k (yRm t y)) k_X6_removeServer_119 (n_rebuild (b := b) (fRmv_ok (i := i) ht) hb) dX6_removeServer_53 rfl rfl rfl rfl rfl rfl (Nat.le_of_ble_eq_true rfl) ⟨Nat.le_of_ble_eq_true rfl, Nat.le_of_ble_eq_true rfl⟩ ⟨rfl, rfl⟩ (Nat.le_of_ble_eq_true rfl) rfl ?_
  refine a_lload_n dX6_removeServer_56 rfl ?_
  refine a_lret rfl dX6_removeServer_57 (by decide) (by decide) ?_
  exact ⟨rfl, rfl⟩
theorem c_X6_setWeight_bad (hl : l.stackTraces = false) (s w : Int32) (hg : (fHs (cS t).1 s && gWt w) = false) : aMt l X mX6_setWeight [0] [.ref 0, .int s, .int w] (aPT t b k y) (fun o h' => o = .inr IAE ∧ h' = aPT t b k y) := by
  refine aMt.of (by decide) rfl (Nat.le_of_ble_eq_true rfl) ?_
  have hck := c_X6_checkServer (X := X) (t := t) (b := b) (k := k) (y := y) hl s
  by_cases h1 : fHs (cS t).1 s = true
  · rw [if_pos h1] at hck
    have h2 : ¬ gWt w = true := by intro z; rw [h1, z] at hg; cases hg
    have hcw := c_X6_checkWeight (X := X) hl w
    rw [if_neg h2] at hcw
    refine a_aload_n dX6_setWeight_0 rfl ?_
    refine a_iload_n dX6_setWeight_1 rfl ?_
    refine a_Vr is55 k_X6_setWeight_123 (hck) dX6_setWeight_2 rfl rfl rfl rfl rfl rfl (Nat.le_of_ble_eq_true rfl) ⟨Nat.le_of_ble_eq_true rfl, Nat.le_of_ble_eq_true rfl⟩ ?_
    refine a_iload_n dX6_setWeight_5 rfl ?_
    refine a_Sx [] k_X6_setWeight_95 (hcw) dX6_setWeight_6 rfl rfl rfl rfl rfl (Nat.le_of_ble_eq_true rfl) ⟨Nat.le_of_ble_eq_true rfl, Nat.le_of_ble_eq_true rfl⟩ rfl ?_
    exact ⟨rfl, rfl⟩
  · rw [if_neg h1] at hck
    refine a_aload_n dX6_setWeight_0 rfl ?_
    refine a_iload_n dX6_setWeight_1 rfl ?_
    refine a_Vx is55 k_X6_setWeight_123 (hck) dX6_setWeight_2 rfl rfl rfl rfl rfl rfl (Nat.le_of_ble_eq_true rfl) ⟨Nat.le_of_ble_eq_true rfl, Nat.le_of_ble_eq_true rfl⟩ rfl ?_
    exact ⟨rfl, rfl⟩
theorem c_X6_setWeight_ok (hl : l.stackTraces = false) (ht : fOk t) (hb : bOk b) (hy : y.1 ≤ 4) (i w : Nat) (hi : i < 10) (hw : w ≤ 16) (hg : fHs (cS t).1 (nI i) = true) (hgw : gWt (nI w) = true) : aMt l X mX6_setWeight [0] [.ref 0, .int (nI i), .int (nI w)] (aPT t b k y) (fun o h' => o = .inl (some (.int (nI (t.2.1 i)))) ∧ h' = aPT (fSwt t i w) (bRb (fSwt t i w) b) k (yRm t y)) := by
  refine aMt.of (by decide) rfl (Nat.le_of_ble_eq_true rfl) ?_
  have hck := c_X6_checkServer (X := X) (t := t) (b := b) (k := k) (y := y) hl (nI i)
  rw [if_pos hg] at hck
  have hcw := c_X6_checkWeight (X := X) hl (nI w)
  rw [if_pos hgw] at hcw
  have hwt := c_X0_weight (l := l) (X := X) (nm := (cS t).1) (wt := (cS t).2.1) (up := (cS t).2.2.1) (ld := (cS t).2.2.2.1) (nI i)
  rw [if_pos hg, cl10 hi] at hwt
  refine a_aload_n dX6_setWeight_0 rfl ?_
  refine a_iload_n dX6_setWeight_1 rfl ?_
  refine a_Vr is55 k_X6_setWeight_123 (hck) dX6_setWeight_2 rfl rfl rfl rfl rfl rfl (Nat.le_of_ble_eq_true rfl) ⟨Nat.le_of_ble_eq_true rfl, Nat.le_of_ble_eq_true rfl⟩ ?_
  refine a_iload_n dX6_setWeight_5 rfl ?_
  refine a_Sr [] k_X6_setWeight_95 (hcw) dX6_setWeight_6 rfl rfl rfl rfl rfl (Nat.le_of_ble_eq_true rfl) ⟨Nat.le_of_ble_eq_true rfl, Nat.le_of_ble_eq_true rfl⟩ ?_
  refine a_aload_n dX6_setWeight_9 rfl ?_
  refine a_get fl_X6_10 dX6_setWeight_10 rfl rfl ?_
  refine a_iload_n dX6_setWeight_13 rfl ?_
  refine a_ViR [1, 2, 3, 4, 5] k_X6_setWeight_136 (hwt) dX6_setWeight_14 rfl rfl rfl rfl rfl rfl (Nat.le_of_ble_eq_true rfl) ⟨Nat.le_of_ble_eq_true rfl, Nat.le_of_ble_eq_true rfl⟩ ⟨rfl, rfl⟩ ?_
  refine a_istore_n dX6_setWeight_17 (by decide) rfl ?_
  refine a_aload_n dX6_setWeight_18 rfl ?_
  refine a_get fl_X6_42 dX6_setWeight_19 rfl rfl ?_
  refine a_aload_n dX6_setWeight_22 rfl ?_
  refine a_get fl_X6_10 dX6_setWeight_23 rfl rfl ?_
  refine a_aload_n dX6_setWeight_26 rfl ?_
  refine a_get fl_X6_19 dX6_setWeight_27 rfl rfl ?_
  refine a_VvW [17, 18, 19, 20, 21, 22, 23, 24, 25, 26, 27, 28, 29, 30, 31, 32, 33, 34, 35, 36, 37, 38, 39, 40, 41, 42, 43, 44, 45, 46, 47, 48, 49, 50, 51, 52, 53, 54, 1, 2, 3, 4, 5, 6, 7, 8] (aPT t b k (yRm t y)) k_X6_setWeight_111 (n_remember (t := t) hy) dX6_setWeight_30 rfl rfl rfl rfl rfl rfl (Nat.le_of_ble_eq_true rfl) ⟨Nat.le_of_ble_eq_true rfl, Nat.le_of_ble_eq_true rfl⟩ ⟨rfl, rfl⟩ (Nat.le_of_ble_eq_true rfl) rfl ?_
  refine a_aload_n dX6_setWeight_33 rfl ?_
  refine a_get fl_X6_10 dX6_setWeight_34 rfl rfl ?_
  refine a_iload_n dX6_setWeight_37 rfl ?_
  refine a_iload_n dX6_setWeight_38 rfl ?_
  refine a_VvW [1, 2, 3, 4, 5] (aPT (fSwt t i w) b k (yRm t y)) k_X6_setWeight_139 (n_changeWeight (t := t) i w hi hg) dX6_setWeight_39 rfl rfl rfl rfl rfl rfl (Nat.le_of_ble_eq_true rfl) ⟨Nat.le_of_ble_eq_true rfl, Nat.le_of_ble_eq_true rfl⟩ ⟨rfl, rfl⟩ (Nat.le_of_ble_eq_true rfl) rfl ?_
  refine a_aload_n dX6_setWeight_42 rfl ?_
  refine a_get fl_X6_28 dX6_setWeight_43 rfl rfl ?_
  refine a_aload_n dX6_setWeight_46 rfl ?_
  refine a_get fl_X6_10 dX6_setWeight_47 rfl rfl ?_
  refine a_VvW [9, 10, 11, 12, 1, 2, 3, 4, 5] (aPT (fSwt t i w) (bRb (fSwt t i w) b) k (yRm t y)) k_X6_setWeight_119 (n_rebuild (b := b) (fSwt_ok (i := i) ht hw) hb) dX6_setWeight_50 rfl rfl rfl rfl rfl rfl (Nat.le_of_ble_eq_true rfl) ⟨Nat.le_of_ble_eq_true rfl, Nat.le_of_ble_eq_true rfl⟩ ⟨rfl, rfl⟩ (Nat.le_of_ble_eq_true rfl) rfl ?_
  refine a_iload_n dX6_setWeight_53 rfl ?_
  refine a_iret rfl dX6_setWeight_54 (by decide) (by decide) ?_
  exact ⟨rfl, rfl⟩
theorem c_X6_setUp_bad (hl : l.stackTraces = false) (s : Int32) (u : Bool) (hg : fHs (cS t).1 s = false) : aMt l X mX6_setUp [0] [.ref 0, .int s, .int (bI u)] (aPT t b k y) (fun o h' => o = .inr IAE ∧ h' = aPT t b k y) := by
  refine aMt.of (by decide) rfl (Nat.le_of_ble_eq_true rfl) ?_
  have hck := c_X6_checkServer (X := X) (t := t) (b := b) (k := k) (y := y) hl s
  rw [hg] at hck
  refine a_aload_n dX6_setUp_0 rfl ?_
  refine a_iload_n dX6_setUp_1 rfl ?_
  refine a_Vx is55 k_X6_setUp_123 (hck) dX6_setUp_2 rfl rfl rfl rfl rfl rfl (Nat.le_of_ble_eq_true rfl) ⟨Nat.le_of_ble_eq_true rfl, Nat.le_of_ble_eq_true rfl⟩ rfl ?_
  exact ⟨rfl, rfl⟩
theorem c_X6_setUp_ok (hl : l.stackTraces = false) (ht : fOk t) (hb : bOk b) (hy : y.1 ≤ 4) (i : Nat) (u : Bool) (hi : i < 10) (hg : fHs (cS t).1 (nI i) = true) : aMt l X mX6_setUp [0] [.ref 0, .int (nI i), .int (bI u)] (aPT t b k y) (fun o h' => o = .inl (some (.int (bI (fUp (cS t).1 (cS t).2.2.1 (nI i))))) ∧ h' = aPT (fSup t i u) (bRb (fSup t i u) b) k (yRm t y)) := by
  refine aMt.of (by decide) rfl (Nat.le_of_ble_eq_true rfl) ?_
  have hck := c_X6_checkServer (X := X) (t := t) (b := b) (k := k) (y := y) hl (nI i)
  rw [if_pos hg] at hck
  refine a_aload_n dX6_setUp_0 rfl ?_
  refine a_iload_n dX6_setUp_1 rfl ?_
  refine a_Vr is55 k_X6_setUp_123 (hck) dX6_setUp_2 rfl rfl rfl rfl rfl rfl (Nat.le_of_ble_eq_true rfl) ⟨Nat.le_of_ble_eq_true rfl, Nat.le_of_ble_eq_true rfl⟩ ?_
  refine a_aload_n dX6_setUp_5 rfl ?_
  refine a_get fl_X6_10 dX6_setUp_6 rfl rfl ?_
  refine a_iload_n dX6_setUp_9 rfl ?_
  refine a_ViR [1, 2, 3, 4, 5] k_X6_setUp_143 (c_X0_isUp (nm := (cS t).1) (wt := (cS t).2.1) (up := (cS t).2.2.1) (ld := (cS t).2.2.2.1) (nI i)) dX6_setUp_10 rfl rfl rfl rfl rfl rfl (Nat.le_of_ble_eq_true rfl) ⟨Nat.le_of_ble_eq_true rfl, Nat.le_of_ble_eq_true rfl⟩ ⟨rfl, rfl⟩ ?_
  refine a_istore_n dX6_setUp_13 (by decide) rfl ?_
  refine a_aload_n dX6_setUp_14 rfl ?_
  refine a_get fl_X6_42 dX6_setUp_15 rfl rfl ?_
  refine a_aload_n dX6_setUp_18 rfl ?_
  refine a_get fl_X6_10 dX6_setUp_19 rfl rfl ?_
  refine a_aload_n dX6_setUp_22 rfl ?_
  refine a_get fl_X6_19 dX6_setUp_23 rfl rfl ?_
  refine a_VvW [17, 18, 19, 20, 21, 22, 23, 24, 25, 26, 27, 28, 29, 30, 31, 32, 33, 34, 35, 36, 37, 38, 39, 40, 41, 42, 43, 44, 45, 46, 47, 48, 49, 50, 51, 52, 53, 54, 1, 2, 3, 4, 5, 6, 7, 8] (aPT t b k (yRm t y)) k_X6_setUp_111 (n_remember (t := t) hy) dX6_setUp_26 rfl rfl rfl rfl rfl rfl (Nat.le_of_ble_eq_true rfl) ⟨Nat.le_of_ble_eq_true rfl, Nat.le_of_ble_eq_true rfl⟩ ⟨rfl, rfl⟩ (Nat.le_of_ble_eq_true rfl) rfl ?_
  refine a_aload_n dX6_setUp_29 rfl ?_
  refine a_get fl_X6_10 dX6_setUp_30 rfl rfl ?_
  refine a_iload_n dX6_setUp_33 rfl ?_
  refine a_iload_n dX6_setUp_34 rfl ?_
  refine a_VvW [1, 2, 3, 4, 5] (aPT (fSup t i u) b k (yRm t y)) k_X6_setUp_146 (n_changeUp (t := t) i u hi hg) dX6_setUp_35 rfl rfl rfl rfl rfl rfl (Nat.le_of_ble_eq_true rfl) ⟨Nat.le_of_ble_eq_true rfl, Nat.le_of_ble_eq_true rfl⟩ ⟨rfl, rfl⟩ (Nat.le_of_ble_eq_true rfl) rfl ?_
  refine a_aload_n dX6_setUp_38 rfl ?_
  refine a_get fl_X6_28 dX6_setUp_39 rfl rfl ?_
  refine a_aload_n dX6_setUp_42 rfl ?_
  refine a_get fl_X6_10 dX6_setUp_43 rfl rfl ?_
  refine a_VvW [9, 10, 11, 12, 1, 2, 3, 4, 5] (aPT (fSup t i u) (bRb (fSup t i u) b) k (yRm t y)) k_X6_setUp_119 (n_rebuild (t := fSup t i u) (b := b) ⟨ht.1, ht.2.1, ht.2.2⟩ hb) dX6_setUp_46 rfl rfl rfl rfl rfl rfl (Nat.le_of_ble_eq_true rfl) ⟨Nat.le_of_ble_eq_true rfl, Nat.le_of_ble_eq_true rfl⟩ ⟨rfl, rfl⟩ (Nat.le_of_ble_eq_true rfl) rfl ?_
  refine a_iload_n dX6_setUp_49 rfl ?_
  refine a_zret rfl (bI_nar _) dX6_setUp_50 (by decide) (by decide) ?_
  exact ⟨rfl, rfl⟩
theorem c_X6_undo_bad (hl : l.stackTraces = false) (hz : y.1 = 0) : aMt l X mX6_undo [0] [.ref 0] (aPT t b k y) (fun o h' => o = .inr ISE ∧ h' = aPT t b k y) := by
  refine aMt.of (by decide) rfl (Nat.le_of_ble_eq_true rfl) ?_
  have hsz := c_X1_size (l := l) (X := X) (z := y.1) (s0 := cS y.2.1) (s1 := cS y.2.2.1) (s2 := cS y.2.2.2.1) (s3 := cS y.2.2.2.2)
  refine a_aload_n dX6_undo_0 rfl ?_
  refine a_get fl_X6_42 dX6_undo_1 rfl rfl ?_
  refine a_ViR [17, 18, 19, 20, 21, 22, 23, 24, 25, 26, 27, 28, 29, 30, 31, 32, 33, 34, 35, 36, 37, 38, 39, 40, 41, 42, 43, 44, 45, 46, 47, 48, 49, 50, 51, 52, 53, 54] k_X6_undo_217 (hsz) dX6_undo_4 rfl rfl rfl rfl rfl rfl (Nat.le_of_ble_eq_true rfl) ⟨Nat.le_of_ble_eq_true rfl, Nat.le_of_ble_eq_true rfl⟩ ⟨rfl, rfl⟩ ?_
  refine a_if_ne 20 dX6_undo_7 (by decide) (fun z => absurd (by rw [hz]; rfl) z) (fun _ => ?_)
  refine a_throw hl tw_105 tx_X6_218 rfl dX6_undo_10 dX6_undo_13 dX6_undo_14 dX6_undo_16 dX6_undo_19 ⟨Nat.le_of_ble_eq_true rfl, Nat.le_of_ble_eq_true rfl⟩ (Nat.le_of_ble_eq_true rfl) (Nat.le_of_ble_eq_true rfl) ?_
  exact ⟨rfl, rfl⟩
theorem c_X6_undo_ok (hs : fOk y.2.1) (hb : bOk b) (h0 : 0 < y.1) (hy : y.1 ≤ 4) : aMt l X mX6_undo [0] [.ref 0] (aPT t b k y) (fun o h' => o = .inl (some (.int (nI (y.1 - 1)))) ∧ h' = aPT (sCN y.2.1 t) (bRb (sCN y.2.1 t) b) k (yBk y)) := by
  refine aMt.of (by decide) rfl (Nat.le_of_ble_eq_true rfl) ?_
  have hsz := c_X1_size (l := l) (X := X) (z := y.1) (s0 := cS y.2.1) (s1 := cS y.2.2.1) (s2 := cS y.2.2.2.1) (s3 := cS y.2.2.2.2)
  refine a_aload_n dX6_undo_0 rfl ?_
  refine a_get fl_X6_42 dX6_undo_1 rfl rfl ?_
  refine a_ViR [17, 18, 19, 20, 21, 22, 23, 24, 25, 26, 27, 28, 29, 30, 31, 32, 33, 34, 35, 36, 37, 38, 39, 40, 41, 42, 43, 44, 45, 46, 47, 48, 49, 50, 51, 52, 53, 54] k_X6_undo_217 (hsz) dX6_undo_4 rfl rfl rfl rfl rfl rfl (Nat.le_of_ble_eq_true rfl) ⟨Nat.le_of_ble_eq_true rfl, Nat.le_of_ble_eq_true rfl⟩ ⟨rfl, rfl⟩ ?_
  refine a_if_ne 20 dX6_undo_7 (by decide) (fun _ => ?_) (fun z => absurd z (nI_ne0 h0 (by omega)))
  refine a_aload_n dX6_undo_20 rfl ?_
  refine a_get fl_X6_42 dX6_undo_21 rfl rfl ?_
  refine a_aload_n dX6_undo_24 rfl ?_
  refine a_get fl_X6_10 dX6_undo_25 rfl rfl ?_
  refine a_aload_n dX6_undo_28 rfl ?_
  refine a_get fl_X6_19 dX6_undo_29 rfl rfl ?_
  refine a_VvW [17, 18, 19, 20, 21, 22, 23, 24, 25, 26, 27, 28, 29, 30, 31, 32, 33, 34, 35, 36, 37, 38, 39, 40, 41, 42, 43, 44, 45, 46, 47, 48, 49, 50, 51, 52, 53, 54, 1, 2, 3, 4, 5, 6, 7, 8] (aPT (sCN y.2.1 t) b k (yBk y)) k_X6_undo_220 (n_bringBack (t := t) h0 hy) dX6_undo_32 rfl rfl rfl rfl rfl rfl (Nat.le_of_ble_eq_true rfl) ⟨Nat.le_of_ble_eq_true rfl, Nat.le_of_ble_eq_true rfl⟩ ⟨rfl, rfl⟩ (Nat.le_of_ble_eq_true rfl) rfl ?_
  refine a_aload_n dX6_undo_35 rfl ?_
  refine a_get fl_X6_28 dX6_undo_36 rfl rfl ?_
  refine a_aload_n dX6_undo_39 rfl ?_
  refine a_get fl_X6_10 dX6_undo_40 rfl rfl ?_
  refine a_VvW [9, 10, 11, 12, 1, 2, 3, 4, 5] (aPT (sCN y.2.1 t) (bRb (sCN y.2.1 t) b) k (yBk y)) k_X6_undo_119 (n_rebuild (b := b) (sCN_ok (t := t) hs) hb) dX6_undo_43 rfl rfl rfl rfl rfl rfl (Nat.le_of_ble_eq_true rfl) ⟨Nat.le_of_ble_eq_true rfl, Nat.le_of_ble_eq_true rfl⟩ ⟨rfl, rfl⟩ (Nat.le_of_ble_eq_true rfl) rfl ?_
  refine a_aload_n dX6_undo_46 rfl ?_
  refine a_get fl_X6_42 dX6_undo_47 rfl rfl ?_
  refine a_ViR [17, 18, 19, 20, 21, 22, 23, 24, 25, 26, 27, 28, 29, 30, 31, 32, 33, 34, 35, 36, 37, 38, 39, 40, 41, 42, 43, 44, 45, 46, 47, 48, 49, 50, 51, 52, 53, 54] k_X6_undo_217 (c_X1_size (z := y.1 - 1) (s0 := cS y.2.2.1) (s1 := cS y.2.2.2.1) (s2 := cS y.2.2.2.2) (s3 := cS y.2.1)) dX6_undo_50 rfl rfl rfl rfl rfl rfl (Nat.le_of_ble_eq_true rfl) ⟨Nat.le_of_ble_eq_true rfl, Nat.le_of_ble_eq_true rfl⟩ ⟨rfl, rfl⟩ ?_
  refine a_iret rfl dX6_undo_53 (by decide) (by decide) ?_
  exact ⟨rfl, rfl⟩
/-- shares -/
def fSh (t : fT) (M : Nat) (s : Int32) : UInt64 := if decide (fWs (cS t).1 (cS t).2.1 (cS t).2.2.1 ≤ 0) || !(fUp (cS t).1 (cS t).2.2.1 s) then FP.dconst0 else FP.ddiv (FP.i2d (nI M * fWt (cS t).1 (cS t).2.1 s)) (FP.i2d (fWs (cS t).1 (cS t).2.1 (cS t).2.2.1))
theorem c_X6_shareOf (s : Int32) (hn : vf_n64 (fSh t b.1 s)) : aRd l X mX6_shareOf [0] [.ref 0, .int s] (aPT t b k y) (.double (fSh t b.1 s)) := by
  refine aMt.of (by decide) rfl (Nat.le_of_ble_eq_true rfl) ?_
  refine a_aload_n dX6_shareOf_0 rfl ?_
  refine a_get fl_X6_10 dX6_shareOf_1 rfl rfl ?_
  refine a_ViR [1, 2, 3, 4, 5] k_X6_shareOf_244 (c_X0_weightSum (nm := (cS t).1) (wt := (cS t).2.1) (up := (cS t).2.2.1) (ld := (cS t).2.2.2.1)) dX6_shareOf_4 rfl rfl rfl rfl rfl rfl (Nat.le_of_ble_eq_true rfl) ⟨Nat.le_of_ble_eq_true rfl, Nat.le_of_ble_eq_true rfl⟩ ⟨rfl, rfl⟩ ?_
  refine a_istore_n dX6_shareOf_7 (by decide) rfl ?_
  refine a_iload_n dX6_shareOf_8 rfl ?_
  refine a_if_le 23 dX6_shareOf_9 (by decide) (fun c9 => ?_) (fun c9 => ?_)
  · refine a_dconst0 dX6_shareOf_23 ?_
    refine a_dret rfl dX6_shareOf_24 (by decide) (by decide) ?_
    exact ⟨by simp [fSh, c9], rfl⟩
  · refine a_aload_n dX6_shareOf_12 rfl ?_
    refine a_get fl_X6_10 dX6_shareOf_13 rfl rfl ?_
    refine a_iload_n dX6_shareOf_16 rfl ?_
    refine a_ViR [1, 2, 3, 4, 5] k_X6_shareOf_143 (c_X0_isUp (nm := (cS t).1) (wt := (cS t).2.1) (up := (cS t).2.2.1) (ld := (cS t).2.2.2.1) s) dX6_shareOf_17 rfl rfl rfl rfl rfl rfl (Nat.le_of_ble_eq_true rfl) ⟨Nat.le_of_ble_eq_true rfl, Nat.le_of_ble_eq_true rfl⟩ ⟨rfl, rfl⟩ ?_
    refine a_if_ne 25 dX6_shareOf_20 (by decide) (fun c20 => ?_) (fun c20 => ?_)
    · have e : fSh t b.1 s = FP.ddiv (FP.i2d (nI b.1 * fWt (cS t).1 (cS t).2.1 s)) (FP.i2d (fWs (cS t).1 (cS t).2.1 (cS t).2.2.1)) := by simp [fSh, c9, bI_1 c20]
      rw [e] at hn
      refine a_aload_n dX6_shareOf_25 rfl ?_
      refine a_get fl_X6_28 dX6_shareOf_26 rfl rfl ?_
      refine a_ViR [9, 10, 11, 12] k_X6_shareOf_57 (c_X3_size (M := b.1) (ow := b.2.1) (dr := b.2.2.1) (tr := b.2.2.2.1) (ch := b.2.2.2.2.1) (fo := b.2.2.2.2.2)) dX6_shareOf_29 rfl rfl rfl rfl rfl rfl (Nat.le_of_ble_eq_true rfl) ⟨Nat.le_of_ble_eq_true rfl, Nat.le_of_ble_eq_true rfl⟩ ⟨rfl, rfl⟩ ?_
      refine a_aload_n dX6_shareOf_32 rfl ?_
      refine a_get fl_X6_10 dX6_shareOf_33 rfl rfl ?_
      refine a_iload_n dX6_shareOf_36 rfl ?_
      refine a_ViR [1, 2, 3, 4, 5] k_X6_shareOf_136 (c_X0_weight (nm := (cS t).1) (wt := (cS t).2.1) (up := (cS t).2.2.1) (ld := (cS t).2.2.2.1) s) dX6_shareOf_37 rfl rfl rfl rfl rfl rfl (Nat.le_of_ble_eq_true rfl) ⟨Nat.le_of_ble_eq_true rfl, Nat.le_of_ble_eq_true rfl⟩ ⟨rfl, rfl⟩ ?_
      refine a_imul dX6_shareOf_40 ?_
      refine a_i2d dX6_shareOf_41 ?_
      refine a_iload_n dX6_shareOf_42 rfl ?_
      refine a_i2d dX6_shareOf_43 ?_
      refine a_ddiv dX6_shareOf_44 hn ?_
      refine a_dret rfl dX6_shareOf_45 (by decide) (by decide) ?_
      exact ⟨by rw [e]; rfl, rfl⟩
    · refine a_dconst0 dX6_shareOf_23 ?_
      refine a_dret rfl dX6_shareOf_24 (by decide) (by decide) ?_
      exact ⟨by simp [fSh, bI_0 c20], rfl⟩
theorem c_X6_idealShare (hl : l.stackTraces = false) (s : Int32) (hn : fHs (cS t).1 s = true → vf_n64 (fSh t b.1 s)) : aMt l X mX6_idealShare [0] [.ref 0, .int s] (aPT t b k y) (fun o h' => o = (if fHs (cS t).1 s then .inl (some (.double (fSh t b.1 s))) else .inr IAE) ∧ h' = aPT t b k y) := by
  refine aMt.of (by decide) rfl (Nat.le_of_ble_eq_true rfl) ?_
  have hck := c_X6_checkServer (X := X) (t := t) (b := b) (k := k) (y := y) hl s
  by_cases hg : fHs (cS t).1 s = true
  · rw [if_pos hg] at hck ⊢
    refine a_aload_n dX6_idealShare_0 rfl ?_
    refine a_iload_n dX6_idealShare_1 rfl ?_
    refine a_Vr is55 k_X6_idealShare_123 (hck) dX6_idealShare_2 rfl rfl rfl rfl rfl rfl (Nat.le_of_ble_eq_true rfl) ⟨Nat.le_of_ble_eq_true rfl, Nat.le_of_ble_eq_true rfl⟩ ?_
    refine a_aload_n dX6_idealShare_5 rfl ?_
    refine a_iload_n dX6_idealShare_6 rfl ?_
    refine a_VdR is55 k_X6_idealShare_85 (c_X6_shareOf s (hn hg)) dX6_idealShare_7 rfl rfl rfl rfl rfl rfl (Nat.le_of_ble_eq_true rfl) ⟨Nat.le_of_ble_eq_true rfl, Nat.le_of_ble_eq_true rfl⟩ ⟨rfl, rfl⟩ ?_
    refine a_dret rfl dX6_idealShare_10 (by decide) (by decide) ?_
    exact ⟨rfl, rfl⟩
  · rw [if_neg hg] at hck ⊢
    refine a_aload_n dX6_idealShare_0 rfl ?_
    refine a_iload_n dX6_idealShare_1 rfl ?_
    refine a_Vx is55 k_X6_idealShare_123 (hck) dX6_idealShare_2 rfl rfl rfl rfl rfl rfl (Nat.le_of_ble_eq_true rfl) ⟨Nat.le_of_ble_eq_true rfl, Nat.le_of_ble_eq_true rfl⟩ rfl ?_
    exact ⟨rfl, rfl⟩
def fIm (t : fT) (b : bT) (j : Nat) (a : UInt64) : UInt64 := if 0 < Op.cmpValue (FP.dcmp (fSh t b.1 (nI j)) FP.dconst0) .l then (if 0 < Op.cmpValue (FP.dcmp (FP.ddiv (FP.i2d (sOb b.2.1 b.1 (nI j))) (fSh t b.1 (nI j))) a) .l then FP.ddiv (FP.i2d (sOb b.2.1 b.1 (nI j))) (fSh t b.1 (nI j)) else a) else a
theorem c_X6_imbalance (hb : bOk b) (hn : ∀ j, j < 10 → vf_n64 (fSh t b.1 (nI j))) (hq : ∀ j, j < 10 → 0 < Op.cmpValue (FP.dcmp (fSh t b.1 (nI j)) FP.dconst0) .l → vf_n64 (FP.ddiv (FP.i2d (sOb b.2.1 b.1 (nI j))) (fSh t b.1 (nI j)))) : aRd l X mX6_imbalance [0] [.ref 0] (aPT t b k y) (.double (aLp (fIm t b) 10 0 FP.dconst0)) := by
  refine aMt.of (by decide) rfl (Nat.le_of_ble_eq_true rfl) ?_
  generalize hr : aLp (fIm t b) 10 0 FP.dconst0 = r
  refine a_dconst0 dX6_imbalance_0 ?_
  refine a_dstore_n dX6_imbalance_1 (by decide) rfl ?_
  refine a_iconst 0 dX6_imbalance_2 (by decide) ?_
  refine a_istore_n dX6_imbalance_3 (by decide) rfl ?_
  have lp : ∀ (n j : Nat) (a : UInt64), j + n = 10 → aLp (fIm t b) n j a = r → aJ l X mX6_imbalance (aEd X mX6_imbalance [0] (fun o h' => o = .inl (some (.double r)) ∧ h' = aPT t b k y)) 0 0 4 [.ref 0, .double a, .null, .int (nI j), .null, .null, .null, .null] [] (aPT t b k y) := by
    intro n
    induction n with
    | zero =>
      intro j a hj hq
      obtain rfl : j = 10 := by omega
      refine a_iload_n dX6_imbalance_4 rfl ?_
      refine a_bipush 10 dX6_imbalance_5 (by decide) ?_
      refine a_icmp_ge 58 dX6_imbalance_7 (by decide) (fun _ => ?_) (fun z => absurd ge10_t z)
      refine a_dload_n dX6_imbalance_58 rfl ?_
      refine a_dret rfl dX6_imbalance_59 (by decide) (by decide) ?_
      exact ⟨by rw [← hq]; rfl, rfl⟩
    | succ n ih =>
      intro j a hj hq9
      refine a_iload_n dX6_imbalance_4 rfl ?_
      refine a_bipush 10 dX6_imbalance_5 (by decide) ?_
      refine a_icmp_ge 58 dX6_imbalance_7 (by decide) (fun z => absurd z (ge10_f (by omega))) (fun _ => ?_)
      refine a_aload_n dX6_imbalance_10 rfl ?_
      refine a_iload_n dX6_imbalance_11 rfl ?_
      refine a_VdR is55 k_X6_imbalance_85 (c_X6_shareOf (t := t) (b := b) (nI j) (hn j (by omega))) dX6_imbalance_12 rfl rfl rfl rfl rfl rfl (Nat.le_of_ble_eq_true rfl) ⟨Nat.le_of_ble_eq_true rfl, Nat.le_of_ble_eq_true rfl⟩ ⟨rfl, rfl⟩ ?_
      refine a_dstore dX6_imbalance_15 (by decide) rfl ?_
      refine a_dload dX6_imbalance_17 rfl ?_
      refine a_dconst0 dX6_imbalance_19 ?_
      refine a_dcmp dX6_imbalance_20 ?_
      refine a_if_le 52 dX6_imbalance_21 (by decide) (fun c21 => ?_) (fun c21 => ?_)
      · refine a_iinc (nI (j + 1)) dX6_imbalance_52 rfl (nI_1 _) (by decide) rfl ?_
        refine a_goto 4 dX6_imbalance_55 (by decide) ?_
        refine a_drop 4 ?_
        have : fIm t b j a = a := by unfold fIm; rw [if_neg (by intro z; exact absurd c21 (by rw [Int32.le_iff_toInt_le]; rw [Int32.lt_iff_toInt_lt] at z; omega))]
        exact ih (j + 1) a (by omega) (by rw [← hq9]; show _ = aLp (fIm t b) n (j + 1) (fIm t b j a); rw [this])
      · have hgt : 0 < Op.cmpValue (FP.dcmp (fSh t b.1 (nI j)) FP.dconst0) .l := by rw [Int32.lt_iff_toInt_lt]; rw [Int32.le_iff_toInt_le] at c21; omega
        refine a_aload_n dX6_imbalance_24 rfl ?_
        refine a_get fl_X6_28 dX6_imbalance_25 rfl rfl ?_
        refine a_iload_n dX6_imbalance_28 rfl ?_
        refine a_ViR [9, 10, 11, 12] k_X6_imbalance_89 (c_X3_ownedBy (ow := b.2.1) (dr := b.2.2.1) (tr := b.2.2.2.1) (ch := b.2.2.2.2.1) (fo := b.2.2.2.2.2) hb.2 (nI j)) dX6_imbalance_29 rfl rfl rfl rfl rfl rfl (Nat.le_of_ble_eq_true rfl) ⟨Nat.le_of_ble_eq_true rfl, Nat.le_of_ble_eq_true rfl⟩ ⟨rfl, rfl⟩ ?_
        refine a_i2d dX6_imbalance_32 ?_
        refine a_dload dX6_imbalance_33 rfl ?_
        refine a_ddiv dX6_imbalance_35 (hq j (by omega) hgt) ?_
        refine a_dstore dX6_imbalance_36 (by decide) rfl ?_
        refine a_dload dX6_imbalance_38 rfl ?_
        refine a_dload_n dX6_imbalance_40 rfl ?_
        refine a_dcmp dX6_imbalance_41 ?_
        refine a_if_le 50 dX6_imbalance_42 (by decide) (fun c42 => ?_) (fun c42 => ?_)
        · refine a_dload_n dX6_imbalance_50 rfl ?_
          refine a_dstore_n dX6_imbalance_51 (by decide) rfl ?_
          refine a_iinc (nI (j + 1)) dX6_imbalance_52 rfl (nI_1 _) (by decide) rfl ?_
          refine a_goto 4 dX6_imbalance_55 (by decide) ?_
          refine a_drop 4 ?_
          refine a_drop 6 ?_
          have : fIm t b j a = a := by unfold fIm; rw [if_pos hgt, if_neg (by intro z; exact absurd c42 (by rw [Int32.le_iff_toInt_le]; rw [Int32.lt_iff_toInt_lt] at z; omega))]
          exact ih (j + 1) a (by omega) (by rw [← hq9]; show _ = aLp (fIm t b) n (j + 1) (fIm t b j a); rw [this])
        · have hgt2 : 0 < Op.cmpValue (FP.dcmp (FP.ddiv (FP.i2d (sOb b.2.1 b.1 (nI j))) (fSh t b.1 (nI j))) a) .l := by rw [Int32.lt_iff_toInt_lt]; rw [Int32.le_iff_toInt_le] at c42; omega
          refine a_dload dX6_imbalance_45 rfl ?_
          refine a_goto 51 dX6_imbalance_47 (by decide) ?_
          refine a_dstore_n dX6_imbalance_51 (by decide) rfl ?_
          refine a_iinc (nI (j + 1)) dX6_imbalance_52 rfl (nI_1 _) (by decide) rfl ?_
          refine a_goto 4 dX6_imbalance_55 (by decide) ?_
          refine a_drop 4 ?_
          refine a_drop 6 ?_
          have : fIm t b j a = FP.ddiv (FP.i2d (sOb b.2.1 b.1 (nI j))) (fSh t b.1 (nI j)) := by unfold fIm; rw [if_pos hgt, if_pos hgt2]
          exact ih (j + 1) _ (by omega) (by rw [← hq9]; show _ = aLp (fIm t b) n (j + 1) (fIm t b j a); rw [this])
  exact lp 10 0 FP.dconst0 rfl hr
end PT5
