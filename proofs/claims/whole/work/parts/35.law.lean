/-! written by wip/whole/pp.py out of wip/whole/src/35.law.lean -/
theorem dL_reset_0 : decode cL_reset 0 = .ok (.aload_n 2, 1) := by decide +kernel
theorem dL_reset_1 : decode cL_reset 1 = .ok (.iconst 0, 1) := by decide +kernel
theorem dL_reset_2 : decode cL_reset 2 = .ok (.aload_n 0, 1) := by decide +kernel
theorem dL_reset_3 : decode cL_reset 3 = .ok (.iload_n 1, 1) := by decide +kernel
theorem dL_reset_4 : decode cL_reset 4 = .ok (.invokevirtual 7, 3) := by decide +kernel
theorem dL_reset_7 : decode cL_reset 7 = .ok (.i2l, 1) := by decide +kernel
theorem dL_reset_8 : decode cL_reset 8 = .ok (.lastore, 1) := by decide +kernel
theorem dL_reset_9 : decode cL_reset 9 = .ok (.goto 6, 3) := by decide +kernel
theorem dL_reset_12 : decode cL_reset 12 = .ok (.astore_n 3, 1) := by decide +kernel
theorem dL_reset_13 : decode cL_reset 13 = .ok (.iconst 1, 1) := by decide +kernel
theorem dL_reset_14 : decode cL_reset 14 = .ok (.ireturn, 1) := by decide +kernel
theorem dL_reset_15 : decode cL_reset 15 = .ok (.iconst 0, 1) := by decide +kernel
theorem dL_reset_16 : decode cL_reset 16 = .ok (.ireturn, 1) := by decide +kernel
theorem dL_serverAt_0 : decode cL_serverAt 0 = .ok (.aload_n 2, 1) := by decide +kernel
theorem dL_serverAt_1 : decode cL_serverAt 1 = .ok (.iconst 0, 1) := by decide +kernel
theorem dL_serverAt_2 : decode cL_serverAt 2 = .ok (.aload_n 0, 1) := by decide +kernel
theorem dL_serverAt_3 : decode cL_serverAt 3 = .ok (.iload_n 1, 1) := by decide +kernel
theorem dL_serverAt_4 : decode cL_serverAt 4 = .ok (.invokevirtual 15, 3) := by decide +kernel
theorem dL_serverAt_7 : decode cL_serverAt 7 = .ok (.i2l, 1) := by decide +kernel
theorem dL_serverAt_8 : decode cL_serverAt 8 = .ok (.lastore, 1) := by decide +kernel
theorem dL_serverAt_9 : decode cL_serverAt 9 = .ok (.goto 6, 3) := by decide +kernel
theorem dL_serverAt_12 : decode cL_serverAt 12 = .ok (.astore_n 3, 1) := by decide +kernel
theorem dL_serverAt_13 : decode cL_serverAt 13 = .ok (.iconst 1, 1) := by decide +kernel
theorem dL_serverAt_14 : decode cL_serverAt 14 = .ok (.ireturn, 1) := by decide +kernel
theorem dL_serverAt_15 : decode cL_serverAt 15 = .ok (.iconst 0, 1) := by decide +kernel
theorem dL_serverAt_16 : decode cL_serverAt 16 = .ok (.ireturn, 1) := by decide +kernel
theorem dL_addServer_0 : decode cL_addServer 0 = .ok (.aload_n 3, 1) := by decide +kernel
theorem dL_addServer_1 : decode cL_addServer 1 = .ok (.iconst 0, 1) := by decide +kernel
theorem dL_addServer_2 : decode cL_addServer 2 = .ok (.aload_n 0, 1) := by decide +kernel
theorem dL_addServer_3 : decode cL_addServer 3 = .ok (.iload_n 1, 1) := by decide +kernel
theorem dL_addServer_4 : decode cL_addServer 4 = .ok (.iload_n 2, 1) := by decide +kernel
theorem dL_addServer_5 : decode cL_addServer 5 = .ok (.invokevirtual 18, 3) := by decide +kernel
theorem dL_addServer_8 : decode cL_addServer 8 = .ok (.i2l, 1) := by decide +kernel
theorem dL_addServer_9 : decode cL_addServer 9 = .ok (.lastore, 1) := by decide +kernel
theorem dL_addServer_10 : decode cL_addServer 10 = .ok (.goto 11, 3) := by decide +kernel
theorem dL_addServer_13 : decode cL_addServer 13 = .ok (.astore 4, 2) := by decide +kernel
theorem dL_addServer_15 : decode cL_addServer 15 = .ok (.iconst 1, 1) := by decide +kernel
theorem dL_addServer_16 : decode cL_addServer 16 = .ok (.ireturn, 1) := by decide +kernel
theorem dL_addServer_17 : decode cL_addServer 17 = .ok (.astore 4, 2) := by decide +kernel
theorem dL_addServer_19 : decode cL_addServer 19 = .ok (.iconst 2, 1) := by decide +kernel
theorem dL_addServer_20 : decode cL_addServer 20 = .ok (.ireturn, 1) := by decide +kernel
theorem dL_addServer_21 : decode cL_addServer 21 = .ok (.iconst 0, 1) := by decide +kernel
theorem dL_addServer_22 : decode cL_addServer 22 = .ok (.ireturn, 1) := by decide +kernel
theorem dL_removeServer_0 : decode cL_removeServer 0 = .ok (.aload_n 2, 1) := by decide +kernel
theorem dL_removeServer_1 : decode cL_removeServer 1 = .ok (.iconst 0, 1) := by decide +kernel
theorem dL_removeServer_2 : decode cL_removeServer 2 = .ok (.aload_n 0, 1) := by decide +kernel
theorem dL_removeServer_3 : decode cL_removeServer 3 = .ok (.iload_n 1, 1) := by decide +kernel
theorem dL_removeServer_4 : decode cL_removeServer 4 = .ok (.invokevirtual 24, 3) := by decide +kernel
theorem dL_removeServer_7 : decode cL_removeServer 7 = .ok (.lastore, 1) := by decide +kernel
theorem dL_removeServer_8 : decode cL_removeServer 8 = .ok (.goto 6, 3) := by decide +kernel
theorem dL_removeServer_11 : decode cL_removeServer 11 = .ok (.astore_n 3, 1) := by decide +kernel
theorem dL_removeServer_12 : decode cL_removeServer 12 = .ok (.iconst 1, 1) := by decide +kernel
theorem dL_removeServer_13 : decode cL_removeServer 13 = .ok (.ireturn, 1) := by decide +kernel
theorem dL_removeServer_14 : decode cL_removeServer 14 = .ok (.iconst 0, 1) := by decide +kernel
theorem dL_removeServer_15 : decode cL_removeServer 15 = .ok (.ireturn, 1) := by decide +kernel
theorem dL_setWeight_0 : decode cL_setWeight 0 = .ok (.aload_n 3, 1) := by decide +kernel
theorem dL_setWeight_1 : decode cL_setWeight 1 = .ok (.iconst 0, 1) := by decide +kernel
theorem dL_setWeight_2 : decode cL_setWeight 2 = .ok (.aload_n 0, 1) := by decide +kernel
theorem dL_setWeight_3 : decode cL_setWeight 3 = .ok (.iload_n 1, 1) := by decide +kernel
theorem dL_setWeight_4 : decode cL_setWeight 4 = .ok (.iload_n 2, 1) := by decide +kernel
theorem dL_setWeight_5 : decode cL_setWeight 5 = .ok (.invokevirtual 28, 3) := by decide +kernel
theorem dL_setWeight_8 : decode cL_setWeight 8 = .ok (.i2l, 1) := by decide +kernel
theorem dL_setWeight_9 : decode cL_setWeight 9 = .ok (.lastore, 1) := by decide +kernel
theorem dL_setWeight_10 : decode cL_setWeight 10 = .ok (.goto 7, 3) := by decide +kernel
theorem dL_setWeight_13 : decode cL_setWeight 13 = .ok (.astore 4, 2) := by decide +kernel
theorem dL_setWeight_15 : decode cL_setWeight 15 = .ok (.iconst 1, 1) := by decide +kernel
theorem dL_setWeight_16 : decode cL_setWeight 16 = .ok (.ireturn, 1) := by decide +kernel
theorem dL_setWeight_17 : decode cL_setWeight 17 = .ok (.iconst 0, 1) := by decide +kernel
theorem dL_setWeight_18 : decode cL_setWeight 18 = .ok (.ireturn, 1) := by decide +kernel
theorem dL_setUp_0 : decode cL_setUp 0 = .ok (.aload_n 3, 1) := by decide +kernel
theorem dL_setUp_1 : decode cL_setUp 1 = .ok (.iconst 0, 1) := by decide +kernel
theorem dL_setUp_2 : decode cL_setUp 2 = .ok (.aload_n 0, 1) := by decide +kernel
theorem dL_setUp_3 : decode cL_setUp 3 = .ok (.iload_n 1, 1) := by decide +kernel
theorem dL_setUp_4 : decode cL_setUp 4 = .ok (.iload_n 2, 1) := by decide +kernel
theorem dL_setUp_5 : decode cL_setUp 5 = .ok (.invokevirtual 31, 3) := by decide +kernel
theorem dL_setUp_8 : decode cL_setUp 8 = .ok (.ifCond .eq 7, 3) := by decide +kernel
theorem dL_setUp_11 : decode cL_setUp 11 = .ok (.lconst 1, 1) := by decide +kernel
theorem dL_setUp_12 : decode cL_setUp 12 = .ok (.goto 4, 3) := by decide +kernel
theorem dL_setUp_15 : decode cL_setUp 15 = .ok (.lconst 0, 1) := by decide +kernel
theorem dL_setUp_16 : decode cL_setUp 16 = .ok (.lastore, 1) := by decide +kernel
theorem dL_setUp_17 : decode cL_setUp 17 = .ok (.goto 7, 3) := by decide +kernel
theorem dL_setUp_20 : decode cL_setUp 20 = .ok (.astore 4, 2) := by decide +kernel
theorem dL_setUp_22 : decode cL_setUp 22 = .ok (.iconst 1, 1) := by decide +kernel
theorem dL_setUp_23 : decode cL_setUp 23 = .ok (.ireturn, 1) := by decide +kernel
theorem dL_setUp_24 : decode cL_setUp 24 = .ok (.iconst 0, 1) := by decide +kernel
theorem dL_setUp_25 : decode cL_setUp 25 = .ok (.ireturn, 1) := by decide +kernel
theorem dL_serverNamed_0 : decode cL_serverNamed 0 = .ok (.aload_n 2, 1) := by decide +kernel
theorem dL_serverNamed_1 : decode cL_serverNamed 1 = .ok (.iconst 0, 1) := by decide +kernel
theorem dL_serverNamed_2 : decode cL_serverNamed 2 = .ok (.aload_n 0, 1) := by decide +kernel
theorem dL_serverNamed_3 : decode cL_serverNamed 3 = .ok (.iload_n 1, 1) := by decide +kernel
theorem dL_serverNamed_4 : decode cL_serverNamed 4 = .ok (.invokevirtual 35, 3) := by decide +kernel
theorem dL_serverNamed_7 : decode cL_serverNamed 7 = .ok (.i2l, 1) := by decide +kernel
theorem dL_serverNamed_8 : decode cL_serverNamed 8 = .ok (.lastore, 1) := by decide +kernel
theorem dL_serverNamed_9 : decode cL_serverNamed 9 = .ok (.goto 6, 3) := by decide +kernel
theorem dL_serverNamed_12 : decode cL_serverNamed 12 = .ok (.astore_n 3, 1) := by decide +kernel
theorem dL_serverNamed_13 : decode cL_serverNamed 13 = .ok (.iconst 1, 1) := by decide +kernel
theorem dL_serverNamed_14 : decode cL_serverNamed 14 = .ok (.ireturn, 1) := by decide +kernel
theorem dL_serverNamed_15 : decode cL_serverNamed 15 = .ok (.iconst 0, 1) := by decide +kernel
theorem dL_serverNamed_16 : decode cL_serverNamed 16 = .ok (.ireturn, 1) := by decide +kernel
theorem dL_preference_0 : decode cL_preference 0 = .ok (.aload_n 3, 1) := by decide +kernel
theorem dL_preference_1 : decode cL_preference 1 = .ok (.iconst 0, 1) := by decide +kernel
theorem dL_preference_2 : decode cL_preference 2 = .ok (.aload_n 0, 1) := by decide +kernel
theorem dL_preference_3 : decode cL_preference 3 = .ok (.iload_n 1, 1) := by decide +kernel
theorem dL_preference_4 : decode cL_preference 4 = .ok (.iload_n 2, 1) := by decide +kernel
theorem dL_preference_5 : decode cL_preference 5 = .ok (.invokevirtual 38, 3) := by decide +kernel
theorem dL_preference_8 : decode cL_preference 8 = .ok (.i2l, 1) := by decide +kernel
theorem dL_preference_9 : decode cL_preference 9 = .ok (.lastore, 1) := by decide +kernel
theorem dL_preference_10 : decode cL_preference 10 = .ok (.goto 7, 3) := by decide +kernel
theorem dL_preference_13 : decode cL_preference 13 = .ok (.astore 4, 2) := by decide +kernel
theorem dL_preference_15 : decode cL_preference 15 = .ok (.iconst 1, 1) := by decide +kernel
theorem dL_preference_16 : decode cL_preference 16 = .ok (.ireturn, 1) := by decide +kernel
theorem dL_preference_17 : decode cL_preference 17 = .ok (.iconst 0, 1) := by decide +kernel
theorem dL_preference_18 : decode cL_preference 18 = .ok (.ireturn, 1) := by decide +kernel
theorem dL_slotsOf_0 : decode cL_slotsOf 0 = .ok (.aload_n 2, 1) := by decide +kernel
theorem dL_slotsOf_1 : decode cL_slotsOf 1 = .ok (.iconst 0, 1) := by decide +kernel
theorem dL_slotsOf_2 : decode cL_slotsOf 2 = .ok (.aload_n 0, 1) := by decide +kernel
theorem dL_slotsOf_3 : decode cL_slotsOf 3 = .ok (.iload_n 1, 1) := by decide +kernel
theorem dL_slotsOf_4 : decode cL_slotsOf 4 = .ok (.invokevirtual 41, 3) := by decide +kernel
theorem dL_slotsOf_7 : decode cL_slotsOf 7 = .ok (.i2l, 1) := by decide +kernel
theorem dL_slotsOf_8 : decode cL_slotsOf 8 = .ok (.lastore, 1) := by decide +kernel
theorem dL_slotsOf_9 : decode cL_slotsOf 9 = .ok (.goto 6, 3) := by decide +kernel
theorem dL_slotsOf_12 : decode cL_slotsOf 12 = .ok (.astore_n 3, 1) := by decide +kernel
theorem dL_slotsOf_13 : decode cL_slotsOf 13 = .ok (.iconst 1, 1) := by decide +kernel
theorem dL_slotsOf_14 : decode cL_slotsOf 14 = .ok (.ireturn, 1) := by decide +kernel
theorem dL_slotsOf_15 : decode cL_slotsOf 15 = .ok (.iconst 0, 1) := by decide +kernel
theorem dL_slotsOf_16 : decode cL_slotsOf 16 = .ok (.ireturn, 1) := by decide +kernel
theorem dL_idealShare_0 : decode cL_idealShare 0 = .ok (.aload_n 2, 1) := by decide +kernel
theorem dL_idealShare_1 : decode cL_idealShare 1 = .ok (.iconst 0, 1) := by decide +kernel
theorem dL_idealShare_2 : decode cL_idealShare 2 = .ok (.aload_n 0, 1) := by decide +kernel
theorem dL_idealShare_3 : decode cL_idealShare 3 = .ok (.iload_n 1, 1) := by decide +kernel
theorem dL_idealShare_4 : decode cL_idealShare 4 = .ok (.invokevirtual 44, 3) := by decide +kernel
theorem dL_idealShare_7 : decode cL_idealShare 7 = .ok (.dastore, 1) := by decide +kernel
theorem dL_idealShare_8 : decode cL_idealShare 8 = .ok (.goto 6, 3) := by decide +kernel
theorem dL_idealShare_11 : decode cL_idealShare 11 = .ok (.astore_n 3, 1) := by decide +kernel
theorem dL_idealShare_12 : decode cL_idealShare 12 = .ok (.iconst 1, 1) := by decide +kernel
theorem dL_idealShare_13 : decode cL_idealShare 13 = .ok (.ireturn, 1) := by decide +kernel
theorem dL_idealShare_14 : decode cL_idealShare 14 = .ok (.iconst 0, 1) := by decide +kernel
theorem dL_idealShare_15 : decode cL_idealShare 15 = .ok (.ireturn, 1) := by decide +kernel
theorem dL_removalDisruption_0 : decode cL_removalDisruption 0 = .ok (.aload_n 2, 1) := by decide +kernel
theorem dL_removalDisruption_1 : decode cL_removalDisruption 1 = .ok (.iconst 0, 1) := by decide +kernel
theorem dL_removalDisruption_2 : decode cL_removalDisruption 2 = .ok (.aload_n 0, 1) := by decide +kernel
theorem dL_removalDisruption_3 : decode cL_removalDisruption 3 = .ok (.iload_n 1, 1) := by decide +kernel
theorem dL_removalDisruption_4 : decode cL_removalDisruption 4 = .ok (.invokevirtual 48, 3) := by decide +kernel
theorem dL_removalDisruption_7 : decode cL_removalDisruption 7 = .ok (.i2l, 1) := by decide +kernel
theorem dL_removalDisruption_8 : decode cL_removalDisruption 8 = .ok (.lastore, 1) := by decide +kernel
theorem dL_removalDisruption_9 : decode cL_removalDisruption 9 = .ok (.goto 6, 3) := by decide +kernel
theorem dL_removalDisruption_12 : decode cL_removalDisruption 12 = .ok (.astore_n 3, 1) := by decide +kernel
theorem dL_removalDisruption_13 : decode cL_removalDisruption 13 = .ok (.iconst 1, 1) := by decide +kernel
theorem dL_removalDisruption_14 : decode cL_removalDisruption 14 = .ok (.ireturn, 1) := by decide +kernel
theorem dL_removalDisruption_15 : decode cL_removalDisruption 15 = .ok (.iconst 0, 1) := by decide +kernel
theorem dL_removalDisruption_16 : decode cL_removalDisruption 16 = .ok (.ireturn, 1) := by decide +kernel
theorem dL_serverOf_0 : decode cL_serverOf 0 = .ok (.aload_n 2, 1) := by decide +kernel
theorem dL_serverOf_1 : decode cL_serverOf 1 = .ok (.iconst 0, 1) := by decide +kernel
theorem dL_serverOf_2 : decode cL_serverOf 2 = .ok (.aload_n 0, 1) := by decide +kernel
theorem dL_serverOf_3 : decode cL_serverOf 3 = .ok (.iload_n 1, 1) := by decide +kernel
theorem dL_serverOf_4 : decode cL_serverOf 4 = .ok (.invokevirtual 51, 3) := by decide +kernel
theorem dL_serverOf_7 : decode cL_serverOf 7 = .ok (.i2l, 1) := by decide +kernel
theorem dL_serverOf_8 : decode cL_serverOf 8 = .ok (.lastore, 1) := by decide +kernel
theorem dL_serverOf_9 : decode cL_serverOf 9 = .ok (.goto 6, 3) := by decide +kernel
theorem dL_serverOf_12 : decode cL_serverOf 12 = .ok (.astore_n 3, 1) := by decide +kernel
theorem dL_serverOf_13 : decode cL_serverOf 13 = .ok (.iconst 1, 1) := by decide +kernel
theorem dL_serverOf_14 : decode cL_serverOf 14 = .ok (.ireturn, 1) := by decide +kernel
theorem dL_serverOf_15 : decode cL_serverOf 15 = .ok (.iconst 0, 1) := by decide +kernel
theorem dL_serverOf_16 : decode cL_serverOf 16 = .ok (.ireturn, 1) := by decide +kernel
theorem dL_request_0 : decode cL_request 0 = .ok (.aload_n 3, 1) := by decide +kernel
theorem dL_request_1 : decode cL_request 1 = .ok (.iconst 0, 1) := by decide +kernel
theorem dL_request_2 : decode cL_request 2 = .ok (.aload_n 0, 1) := by decide +kernel
theorem dL_request_3 : decode cL_request 3 = .ok (.iload_n 1, 1) := by decide +kernel
theorem dL_request_4 : decode cL_request 4 = .ok (.iload_n 2, 1) := by decide +kernel
theorem dL_request_5 : decode cL_request 5 = .ok (.invokevirtual 54, 3) := by decide +kernel
theorem dL_request_8 : decode cL_request 8 = .ok (.i2l, 1) := by decide +kernel
theorem dL_request_9 : decode cL_request 9 = .ok (.lastore, 1) := by decide +kernel
theorem dL_request_10 : decode cL_request 10 = .ok (.goto 7, 3) := by decide +kernel
theorem dL_request_13 : decode cL_request 13 = .ok (.astore 4, 2) := by decide +kernel
theorem dL_request_15 : decode cL_request 15 = .ok (.iconst 1, 1) := by decide +kernel
theorem dL_request_16 : decode cL_request 16 = .ok (.ireturn, 1) := by decide +kernel
theorem dL_request_17 : decode cL_request 17 = .ok (.iconst 0, 1) := by decide +kernel
theorem dL_request_18 : decode cL_request 18 = .ok (.ireturn, 1) := by decide +kernel
theorem dL_loadOf_0 : decode cL_loadOf 0 = .ok (.aload_n 2, 1) := by decide +kernel
theorem dL_loadOf_1 : decode cL_loadOf 1 = .ok (.iconst 0, 1) := by decide +kernel
theorem dL_loadOf_2 : decode cL_loadOf 2 = .ok (.aload_n 0, 1) := by decide +kernel
theorem dL_loadOf_3 : decode cL_loadOf 3 = .ok (.iload_n 1, 1) := by decide +kernel
theorem dL_loadOf_4 : decode cL_loadOf 4 = .ok (.invokevirtual 57, 3) := by decide +kernel
theorem dL_loadOf_7 : decode cL_loadOf 7 = .ok (.lastore, 1) := by decide +kernel
theorem dL_loadOf_8 : decode cL_loadOf 8 = .ok (.goto 6, 3) := by decide +kernel
theorem dL_loadOf_11 : decode cL_loadOf 11 = .ok (.astore_n 3, 1) := by decide +kernel
theorem dL_loadOf_12 : decode cL_loadOf 12 = .ok (.iconst 1, 1) := by decide +kernel
theorem dL_loadOf_13 : decode cL_loadOf 13 = .ok (.ireturn, 1) := by decide +kernel
theorem dL_loadOf_14 : decode cL_loadOf 14 = .ok (.iconst 0, 1) := by decide +kernel
theorem dL_loadOf_15 : decode cL_loadOf 15 = .ok (.ireturn, 1) := by decide +kernel
theorem dL_rankedServer_0 : decode cL_rankedServer 0 = .ok (.aload_n 2, 1) := by decide +kernel
theorem dL_rankedServer_1 : decode cL_rankedServer 1 = .ok (.iconst 0, 1) := by decide +kernel
theorem dL_rankedServer_2 : decode cL_rankedServer 2 = .ok (.aload_n 0, 1) := by decide +kernel
theorem dL_rankedServer_3 : decode cL_rankedServer 3 = .ok (.iload_n 1, 1) := by decide +kernel
theorem dL_rankedServer_4 : decode cL_rankedServer 4 = .ok (.invokevirtual 60, 3) := by decide +kernel
theorem dL_rankedServer_7 : decode cL_rankedServer 7 = .ok (.i2l, 1) := by decide +kernel
theorem dL_rankedServer_8 : decode cL_rankedServer 8 = .ok (.lastore, 1) := by decide +kernel
theorem dL_rankedServer_9 : decode cL_rankedServer 9 = .ok (.goto 6, 3) := by decide +kernel
theorem dL_rankedServer_12 : decode cL_rankedServer 12 = .ok (.astore_n 3, 1) := by decide +kernel
theorem dL_rankedServer_13 : decode cL_rankedServer 13 = .ok (.iconst 1, 1) := by decide +kernel
theorem dL_rankedServer_14 : decode cL_rankedServer 14 = .ok (.ireturn, 1) := by decide +kernel
theorem dL_rankedServer_15 : decode cL_rankedServer 15 = .ok (.iconst 0, 1) := by decide +kernel
theorem dL_rankedServer_16 : decode cL_rankedServer 16 = .ok (.ireturn, 1) := by decide +kernel
theorem dL_pin_0 : decode cL_pin 0 = .ok (.aload_n 3, 1) := by decide +kernel
theorem dL_pin_1 : decode cL_pin 1 = .ok (.iconst 0, 1) := by decide +kernel
theorem dL_pin_2 : decode cL_pin 2 = .ok (.aload_n 0, 1) := by decide +kernel
theorem dL_pin_3 : decode cL_pin 3 = .ok (.iload_n 1, 1) := by decide +kernel
theorem dL_pin_4 : decode cL_pin 4 = .ok (.iload_n 2, 1) := by decide +kernel
theorem dL_pin_5 : decode cL_pin 5 = .ok (.invokevirtual 65, 3) := by decide +kernel
theorem dL_pin_8 : decode cL_pin 8 = .ok (.i2l, 1) := by decide +kernel
theorem dL_pin_9 : decode cL_pin 9 = .ok (.lastore, 1) := by decide +kernel
theorem dL_pin_10 : decode cL_pin 10 = .ok (.goto 11, 3) := by decide +kernel
theorem dL_pin_13 : decode cL_pin 13 = .ok (.astore 4, 2) := by decide +kernel
theorem dL_pin_15 : decode cL_pin 15 = .ok (.iconst 1, 1) := by decide +kernel
theorem dL_pin_16 : decode cL_pin 16 = .ok (.ireturn, 1) := by decide +kernel
theorem dL_pin_17 : decode cL_pin 17 = .ok (.astore 4, 2) := by decide +kernel
theorem dL_pin_19 : decode cL_pin 19 = .ok (.iconst 2, 1) := by decide +kernel
theorem dL_pin_20 : decode cL_pin 20 = .ok (.ireturn, 1) := by decide +kernel
theorem dL_pin_21 : decode cL_pin 21 = .ok (.iconst 0, 1) := by decide +kernel
theorem dL_pin_22 : decode cL_pin 22 = .ok (.ireturn, 1) := by decide +kernel
theorem dL_unpin_0 : decode cL_unpin 0 = .ok (.aload_n 2, 1) := by decide +kernel
theorem dL_unpin_1 : decode cL_unpin 1 = .ok (.iconst 0, 1) := by decide +kernel
theorem dL_unpin_2 : decode cL_unpin 2 = .ok (.aload_n 0, 1) := by decide +kernel
theorem dL_unpin_3 : decode cL_unpin 3 = .ok (.iload_n 1, 1) := by decide +kernel
theorem dL_unpin_4 : decode cL_unpin 4 = .ok (.invokevirtual 68, 3) := by decide +kernel
theorem dL_unpin_7 : decode cL_unpin 7 = .ok (.i2l, 1) := by decide +kernel
theorem dL_unpin_8 : decode cL_unpin 8 = .ok (.lastore, 1) := by decide +kernel
theorem dL_unpin_9 : decode cL_unpin 9 = .ok (.goto 6, 3) := by decide +kernel
theorem dL_unpin_12 : decode cL_unpin 12 = .ok (.astore_n 3, 1) := by decide +kernel
theorem dL_unpin_13 : decode cL_unpin 13 = .ok (.iconst 1, 1) := by decide +kernel
theorem dL_unpin_14 : decode cL_unpin 14 = .ok (.ireturn, 1) := by decide +kernel
theorem dL_unpin_15 : decode cL_unpin 15 = .ok (.iconst 0, 1) := by decide +kernel
theorem dL_unpin_16 : decode cL_unpin 16 = .ok (.ireturn, 1) := by decide +kernel
theorem dL_pinHottest_0 : decode cL_pinHottest 0 = .ok (.aload_n 1, 1) := by decide +kernel
theorem dL_pinHottest_1 : decode cL_pinHottest 1 = .ok (.iconst 0, 1) := by decide +kernel
theorem dL_pinHottest_2 : decode cL_pinHottest 2 = .ok (.aload_n 0, 1) := by decide +kernel
theorem dL_pinHottest_3 : decode cL_pinHottest 3 = .ok (.invokevirtual 71, 3) := by decide +kernel
theorem dL_pinHottest_6 : decode cL_pinHottest 6 = .ok (.i2l, 1) := by decide +kernel
theorem dL_pinHottest_7 : decode cL_pinHottest 7 = .ok (.lastore, 1) := by decide +kernel
theorem dL_pinHottest_8 : decode cL_pinHottest 8 = .ok (.goto 6, 3) := by decide +kernel
theorem dL_pinHottest_11 : decode cL_pinHottest 11 = .ok (.astore_n 2, 1) := by decide +kernel
theorem dL_pinHottest_12 : decode cL_pinHottest 12 = .ok (.iconst 1, 1) := by decide +kernel
theorem dL_pinHottest_13 : decode cL_pinHottest 13 = .ok (.ireturn, 1) := by decide +kernel
theorem dL_pinHottest_14 : decode cL_pinHottest 14 = .ok (.iconst 0, 1) := by decide +kernel
theorem dL_pinHottest_15 : decode cL_pinHottest 15 = .ok (.ireturn, 1) := by decide +kernel
theorem dL_hotKey_0 : decode cL_hotKey 0 = .ok (.aload_n 2, 1) := by decide +kernel
theorem dL_hotKey_1 : decode cL_hotKey 1 = .ok (.iconst 0, 1) := by decide +kernel
theorem dL_hotKey_2 : decode cL_hotKey 2 = .ok (.aload_n 0, 1) := by decide +kernel
theorem dL_hotKey_3 : decode cL_hotKey 3 = .ok (.iload_n 1, 1) := by decide +kernel
theorem dL_hotKey_4 : decode cL_hotKey 4 = .ok (.invokevirtual 75, 3) := by decide +kernel
theorem dL_hotKey_7 : decode cL_hotKey 7 = .ok (.i2l, 1) := by decide +kernel
theorem dL_hotKey_8 : decode cL_hotKey 8 = .ok (.lastore, 1) := by decide +kernel
theorem dL_hotKey_9 : decode cL_hotKey 9 = .ok (.goto 6, 3) := by decide +kernel
theorem dL_hotKey_12 : decode cL_hotKey 12 = .ok (.astore_n 3, 1) := by decide +kernel
theorem dL_hotKey_13 : decode cL_hotKey 13 = .ok (.iconst 1, 1) := by decide +kernel
theorem dL_hotKey_14 : decode cL_hotKey 14 = .ok (.ireturn, 1) := by decide +kernel
theorem dL_hotKey_15 : decode cL_hotKey 15 = .ok (.iconst 0, 1) := by decide +kernel
theorem dL_hotKey_16 : decode cL_hotKey 16 = .ok (.ireturn, 1) := by decide +kernel
theorem dL_hotCount_0 : decode cL_hotCount 0 = .ok (.aload_n 2, 1) := by decide +kernel
theorem dL_hotCount_1 : decode cL_hotCount 1 = .ok (.iconst 0, 1) := by decide +kernel
theorem dL_hotCount_2 : decode cL_hotCount 2 = .ok (.aload_n 0, 1) := by decide +kernel
theorem dL_hotCount_3 : decode cL_hotCount 3 = .ok (.iload_n 1, 1) := by decide +kernel
theorem dL_hotCount_4 : decode cL_hotCount 4 = .ok (.invokevirtual 78, 3) := by decide +kernel
theorem dL_hotCount_7 : decode cL_hotCount 7 = .ok (.lastore, 1) := by decide +kernel
theorem dL_hotCount_8 : decode cL_hotCount 8 = .ok (.goto 6, 3) := by decide +kernel
theorem dL_hotCount_11 : decode cL_hotCount 11 = .ok (.astore_n 3, 1) := by decide +kernel
theorem dL_hotCount_12 : decode cL_hotCount 12 = .ok (.iconst 1, 1) := by decide +kernel
theorem dL_hotCount_13 : decode cL_hotCount 13 = .ok (.ireturn, 1) := by decide +kernel
theorem dL_hotCount_14 : decode cL_hotCount 14 = .ok (.iconst 0, 1) := by decide +kernel
theorem dL_hotCount_15 : decode cL_hotCount 15 = .ok (.ireturn, 1) := by decide +kernel
theorem dL_hotError_0 : decode cL_hotError 0 = .ok (.aload_n 2, 1) := by decide +kernel
theorem dL_hotError_1 : decode cL_hotError 1 = .ok (.iconst 0, 1) := by decide +kernel
theorem dL_hotError_2 : decode cL_hotError 2 = .ok (.aload_n 0, 1) := by decide +kernel
theorem dL_hotError_3 : decode cL_hotError 3 = .ok (.iload_n 1, 1) := by decide +kernel
theorem dL_hotError_4 : decode cL_hotError 4 = .ok (.invokevirtual 81, 3) := by decide +kernel
theorem dL_hotError_7 : decode cL_hotError 7 = .ok (.lastore, 1) := by decide +kernel
theorem dL_hotError_8 : decode cL_hotError 8 = .ok (.goto 6, 3) := by decide +kernel
theorem dL_hotError_11 : decode cL_hotError 11 = .ok (.astore_n 3, 1) := by decide +kernel
theorem dL_hotError_12 : decode cL_hotError 12 = .ok (.iconst 1, 1) := by decide +kernel
theorem dL_hotError_13 : decode cL_hotError 13 = .ok (.ireturn, 1) := by decide +kernel
theorem dL_hotError_14 : decode cL_hotError 14 = .ok (.iconst 0, 1) := by decide +kernel
theorem dL_hotError_15 : decode cL_hotError 15 = .ok (.ireturn, 1) := by decide +kernel
theorem dL_undo_0 : decode cL_undo 0 = .ok (.aload_n 1, 1) := by decide +kernel
theorem dL_undo_1 : decode cL_undo 1 = .ok (.iconst 0, 1) := by decide +kernel
theorem dL_undo_2 : decode cL_undo 2 = .ok (.aload_n 0, 1) := by decide +kernel
theorem dL_undo_3 : decode cL_undo 3 = .ok (.invokevirtual 84, 3) := by decide +kernel
theorem dL_undo_6 : decode cL_undo 6 = .ok (.i2l, 1) := by decide +kernel
theorem dL_undo_7 : decode cL_undo 7 = .ok (.lastore, 1) := by decide +kernel
theorem dL_undo_8 : decode cL_undo 8 = .ok (.goto 6, 3) := by decide +kernel
theorem dL_undo_11 : decode cL_undo 11 = .ok (.astore_n 2, 1) := by decide +kernel
theorem dL_undo_12 : decode cL_undo 12 = .ok (.iconst 1, 1) := by decide +kernel
theorem dL_undo_13 : decode cL_undo 13 = .ok (.ireturn, 1) := by decide +kernel
theorem dL_undo_14 : decode cL_undo 14 = .ok (.iconst 0, 1) := by decide +kernel
theorem dL_undo_15 : decode cL_undo 15 = .ok (.ireturn, 1) := by decide +kernel
/-! ===== the law's own methods, by what the class does ===== -/
theorem one_in : vp_in 0 1 := vpD (by decide)
section LAW
variable {l : Launch} {X : aX} {hx hx' : List aCell} {fs : List Value} {o : Nat → Int64} {d : Nat → UInt64}
theorem k_L_reset_7 : aKV mL_reset mX6_reset 7 1 6 := ⟨cb_X6_reset, rfl, ml_L_7, iv_X6_reset, sl_X6_reset, ⟨_, _, rfl⟩, ⟨Nat.le_of_ble_eq_true rfl, Nat.le_of_ble_eq_true rfl⟩⟩
theorem c_L_reset_ok {r : Int32} (p0 : Int32) (hC : aMt l X mX6_reset [0] [.ref 0, .int p0] hx (fun o' h' => o' = .inl (some (.int r)) ∧ h' = hx')) (hb : aHx hx) (hb' : aHx hx') (h0 : hx[0]? = some (aOb 6 fs)) : aWr l X mL_reset [0, 55] [.ref 0, .int p0, .ref 55] (hx ++ [aLa 1 o]) (some (.int 0)) (hx' ++ [aLa 1 (vp_updL o 0 r.toInt64)]) := by
  refine aMt.ofH (by decide) rfl (Nat.le_of_ble_eq_true rfl) ?_
  refine a_aload_n dL_reset_0 rfl ?_
  refine a_iconst 0 dL_reset_1 (by decide) ?_
  refine a_aload_n dL_reset_2 rfl ?_
  refine a_iload_n dL_reset_3 rfl ?_
  refine lx_call k_L_reset_7 hC dL_reset_4 rfl h0 rfl rfl rfl (Nat.le_of_ble_eq_true rfl) ⟨Nat.le_of_ble_eq_true rfl, Nat.le_of_ble_eq_true rfl⟩ hb hb' (fun _ => rfl) (fun _ => rfl) ?_
  refine a_i2l dL_reset_7 ?_
  refine a_last dL_reset_8 (aHx_55 hb') one_in ?_
  rw [aHx_set hb']
  refine a_goto 15 dL_reset_9 (by decide) ?_
  refine a_iconst 0 dL_reset_15 (by decide) ?_
  refine a_iret rfl dL_reset_16 (by decide) (by decide) ?_
  exact ⟨rfl, rfl⟩
theorem c_L_reset_x (p0 : Int32) (hC : aMt l X mX6_reset [0] [.ref 0, .int p0] hx (fun o' h' => o' = .inr IAE ∧ h' = hx)) (hb : aHx hx) (h0 : hx[0]? = some (aOb 6 fs)) : aWr l X mL_reset [0, 55] [.ref 0, .int p0, .ref 55] (hx ++ [aLa 1 o]) (some (.int 1)) (hx ++ [aLa 1 o]) := by
  refine aMt.ofH (by decide) rfl (Nat.le_of_ble_eq_true rfl) ?_
  refine a_aload_n dL_reset_0 rfl ?_
  refine a_iconst 0 dL_reset_1 (by decide) ?_
  refine a_aload_n dL_reset_2 rfl ?_
  refine a_iload_n dL_reset_3 rfl ?_
  refine lx_callx k_L_reset_7 hC dL_reset_4 rfl h0 rfl rfl rfl (Nat.le_of_ble_eq_true rfl) ⟨Nat.le_of_ble_eq_true rfl, Nat.le_of_ble_eq_true rfl⟩ hb (fun _ => rfl) ?_
  refine a_catch0 (name := IAE) (x := (0, 9, 12, 13)) rfl (by decide) (by decide) kl_L_13 ca_IllegalArgumentException (lx_ok hb (fun _ => rfl) rfl) ?_
  refine a_astore_n dL_reset_12 (by decide) rfl ?_
  refine a_iconst 1 dL_reset_13 (by decide) ?_
  refine a_iret rfl dL_reset_14 (by decide) (by decide) ?_
  exact ⟨rfl, rfl⟩
theorem k_L_serverAt_15 : aKV mL_serverAt mX6_serverAt 15 1 6 := ⟨cb_X6_serverAt, rfl, ml_L_15, iv_X6_serverAt, sl_X6_serverAt, ⟨_, _, rfl⟩, ⟨Nat.le_of_ble_eq_true rfl, Nat.le_of_ble_eq_true rfl⟩⟩
theorem c_L_serverAt_ok {r : Int32} (p0 : Int32) (hC : aMt l X mX6_serverAt [0] [.ref 0, .int p0] hx (fun o' h' => o' = .inl (some (.int r)) ∧ h' = hx')) (hb : aHx hx) (hb' : aHx hx') (h0 : hx[0]? = some (aOb 6 fs)) : aWr l X mL_serverAt [0, 55] [.ref 0, .int p0, .ref 55] (hx ++ [aLa 1 o]) (some (.int 0)) (hx' ++ [aLa 1 (vp_updL o 0 r.toInt64)]) := by
  refine aMt.ofH (by decide) rfl (Nat.le_of_ble_eq_true rfl) ?_
  refine a_aload_n dL_serverAt_0 rfl ?_
  refine a_iconst 0 dL_serverAt_1 (by decide) ?_
  refine a_aload_n dL_serverAt_2 rfl ?_
  refine a_iload_n dL_serverAt_3 rfl ?_
  refine lx_call k_L_serverAt_15 hC dL_serverAt_4 rfl h0 rfl rfl rfl (Nat.le_of_ble_eq_true rfl) ⟨Nat.le_of_ble_eq_true rfl, Nat.le_of_ble_eq_true rfl⟩ hb hb' (fun _ => rfl) (fun _ => rfl) ?_
  refine a_i2l dL_serverAt_7 ?_
  refine a_last dL_serverAt_8 (aHx_55 hb') one_in ?_
  rw [aHx_set hb']
  refine a_goto 15 dL_serverAt_9 (by decide) ?_
  refine a_iconst 0 dL_serverAt_15 (by decide) ?_
  refine a_iret rfl dL_serverAt_16 (by decide) (by decide) ?_
  exact ⟨rfl, rfl⟩
theorem c_L_serverAt_x (p0 : Int32) (hC : aMt l X mX6_serverAt [0] [.ref 0, .int p0] hx (fun o' h' => o' = .inr IAE ∧ h' = hx)) (hb : aHx hx) (h0 : hx[0]? = some (aOb 6 fs)) : aWr l X mL_serverAt [0, 55] [.ref 0, .int p0, .ref 55] (hx ++ [aLa 1 o]) (some (.int 1)) (hx ++ [aLa 1 o]) := by
  refine aMt.ofH (by decide) rfl (Nat.le_of_ble_eq_true rfl) ?_
  refine a_aload_n dL_serverAt_0 rfl ?_
  refine a_iconst 0 dL_serverAt_1 (by decide) ?_
  refine a_aload_n dL_serverAt_2 rfl ?_
  refine a_iload_n dL_serverAt_3 rfl ?_
  refine lx_callx k_L_serverAt_15 hC dL_serverAt_4 rfl h0 rfl rfl rfl (Nat.le_of_ble_eq_true rfl) ⟨Nat.le_of_ble_eq_true rfl, Nat.le_of_ble_eq_true rfl⟩ hb (fun _ => rfl) ?_
  refine a_catch0 (name := IAE) (x := (0, 9, 12, 13)) rfl (by decide) (by decide) kl_L_13 ca_IllegalArgumentException (lx_ok hb (fun _ => rfl) rfl) ?_
  refine a_astore_n dL_serverAt_12 (by decide) rfl ?_
  refine a_iconst 1 dL_serverAt_13 (by decide) ?_
  refine a_iret rfl dL_serverAt_14 (by decide) (by decide) ?_
  exact ⟨rfl, rfl⟩
theorem k_L_addServer_18 : aKV mL_addServer mX6_addServer 18 2 6 := ⟨cb_X6_addServer, rfl, ml_L_18, iv_X6_addServer, sl_X6_addServer, ⟨_, _, rfl⟩, ⟨Nat.le_of_ble_eq_true rfl, Nat.le_of_ble_eq_true rfl⟩⟩
theorem c_L_addServer_ok {r : Int32} (p0 : Int32) (p1 : Int32) (hC : aMt l X mX6_addServer [0] [.ref 0, .int p0, .int p1] hx (fun o' h' => o' = .inl (some (.int r)) ∧ h' = hx')) (hb : aHx hx) (hb' : aHx hx') (h0 : hx[0]? = some (aOb 6 fs)) : aWr l X mL_addServer [0, 55] [.ref 0, .int p0, .int p1, .ref 55] (hx ++ [aLa 1 o]) (some (.int 0)) (hx' ++ [aLa 1 (vp_updL o 0 r.toInt64)]) := by
  refine aMt.ofH (by decide) rfl (Nat.le_of_ble_eq_true rfl) ?_
  refine a_aload_n dL_addServer_0 rfl ?_
  refine a_iconst 0 dL_addServer_1 (by decide) ?_
  refine a_aload_n dL_addServer_2 rfl ?_
  refine a_iload_n dL_addServer_3 rfl ?_
  refine a_iload_n dL_addServer_4 rfl ?_
  refine lx_call k_L_addServer_18 hC dL_addServer_5 rfl h0 rfl rfl rfl (Nat.le_of_ble_eq_true rfl) ⟨Nat.le_of_ble_eq_true rfl, Nat.le_of_ble_eq_true rfl⟩ hb hb' (fun _ => rfl) (fun _ => rfl) ?_
  refine a_i2l dL_addServer_8 ?_
  refine a_last dL_addServer_9 (aHx_55 hb') one_in ?_
  rw [aHx_set hb']
  refine a_goto 21 dL_addServer_10 (by decide) ?_
  refine a_iconst 0 dL_addServer_21 (by decide) ?_
  refine a_iret rfl dL_addServer_22 (by decide) (by decide) ?_
  exact ⟨rfl, rfl⟩
theorem c_L_addServer_x (p0 : Int32) (p1 : Int32) (hC : aMt l X mX6_addServer [0] [.ref 0, .int p0, .int p1] hx (fun o' h' => o' = .inr IAE ∧ h' = hx)) (hb : aHx hx) (h0 : hx[0]? = some (aOb 6 fs)) : aWr l X mL_addServer [0, 55] [.ref 0, .int p0, .int p1, .ref 55] (hx ++ [aLa 1 o]) (some (.int 1)) (hx ++ [aLa 1 o]) := by
  refine aMt.ofH (by decide) rfl (Nat.le_of_ble_eq_true rfl) ?_
  refine a_aload_n dL_addServer_0 rfl ?_
  refine a_iconst 0 dL_addServer_1 (by decide) ?_
  refine a_aload_n dL_addServer_2 rfl ?_
  refine a_iload_n dL_addServer_3 rfl ?_
  refine a_iload_n dL_addServer_4 rfl ?_
  refine lx_callx k_L_addServer_18 hC dL_addServer_5 rfl h0 rfl rfl rfl (Nat.le_of_ble_eq_true rfl) ⟨Nat.le_of_ble_eq_true rfl, Nat.le_of_ble_eq_true rfl⟩ hb (fun _ => rfl) ?_
  refine a_catch0 (name := IAE) (x := (0, 10, 13, 13)) rfl (by decide) (by decide) kl_L_13 ca_IllegalArgumentException (lx_ok hb (fun _ => rfl) rfl) ?_
  refine a_astore dL_addServer_13 (by decide) rfl ?_
  refine a_iconst 1 dL_addServer_15 (by decide) ?_
  refine a_iret rfl dL_addServer_16 (by decide) (by decide) ?_
  exact ⟨rfl, rfl⟩
theorem c_L_addServer_y (p0 : Int32) (p1 : Int32) (hC : aMt l X mX6_addServer [0] [.ref 0, .int p0, .int p1] hx (fun o' h' => o' = .inr ISE ∧ h' = hx)) (hb : aHx hx) (h0 : hx[0]? = some (aOb 6 fs)) : aWr l X mL_addServer [0, 55] [.ref 0, .int p0, .int p1, .ref 55] (hx ++ [aLa 1 o]) (some (.int 2)) (hx ++ [aLa 1 o]) := by
  refine aMt.ofH (by decide) rfl (Nat.le_of_ble_eq_true rfl) ?_
  refine a_aload_n dL_addServer_0 rfl ?_
  refine a_iconst 0 dL_addServer_1 (by decide) ?_
  refine a_aload_n dL_addServer_2 rfl ?_
  refine a_iload_n dL_addServer_3 rfl ?_
  refine a_iload_n dL_addServer_4 rfl ?_
  refine lx_callx k_L_addServer_18 hC dL_addServer_5 rfl h0 rfl rfl rfl (Nat.le_of_ble_eq_true rfl) ⟨Nat.le_of_ble_eq_true rfl, Nat.le_of_ble_eq_true rfl⟩ hb (fun _ => rfl) ?_
  refine a_catch1 (name := ISE) (y := (0, 10, 13, 13)) (x := (0, 10, 17, 22)) rfl (by decide) kl_L_13 (by decide) (by decide) kl_L_22 ca_IllegalStateException (lx_ok hb (fun _ => rfl) rfl) ?_
  refine a_astore dL_addServer_17 (by decide) rfl ?_
  refine a_iconst 2 dL_addServer_19 (by decide) ?_
  refine a_iret rfl dL_addServer_20 (by decide) (by decide) ?_
  exact ⟨rfl, rfl⟩
theorem k_L_removeServer_24 : aKV mL_removeServer mX6_removeServer 24 1 6 := ⟨cb_X6_removeServer, rfl, ml_L_24, iv_X6_removeServer, sl_X6_removeServer, ⟨_, _, rfl⟩, ⟨Nat.le_of_ble_eq_true rfl, Nat.le_of_ble_eq_true rfl⟩⟩
theorem c_L_removeServer_ok {r : Int64} (p0 : Int32) (hC : aMt l X mX6_removeServer [0] [.ref 0, .int p0] hx (fun o' h' => o' = .inl (some (.long r)) ∧ h' = hx')) (hb : aHx hx) (hb' : aHx hx') (h0 : hx[0]? = some (aOb 6 fs)) : aWr l X mL_removeServer [0, 55] [.ref 0, .int p0, .ref 55] (hx ++ [aLa 1 o]) (some (.int 0)) (hx' ++ [aLa 1 (vp_updL o 0 r)]) := by
  refine aMt.ofH (by decide) rfl (Nat.le_of_ble_eq_true rfl) ?_
  refine a_aload_n dL_removeServer_0 rfl ?_
  refine a_iconst 0 dL_removeServer_1 (by decide) ?_
  refine a_aload_n dL_removeServer_2 rfl ?_
  refine a_iload_n dL_removeServer_3 rfl ?_
  refine lx_call k_L_removeServer_24 hC dL_removeServer_4 rfl h0 rfl rfl rfl (Nat.le_of_ble_eq_true rfl) ⟨Nat.le_of_ble_eq_true rfl, Nat.le_of_ble_eq_true rfl⟩ hb hb' (fun _ => rfl) (fun _ => rfl) ?_
  refine a_last dL_removeServer_7 (aHx_55 hb') one_in ?_
  rw [aHx_set hb']
  refine a_goto 14 dL_removeServer_8 (by decide) ?_
  refine a_iconst 0 dL_removeServer_14 (by decide) ?_
  refine a_iret rfl dL_removeServer_15 (by decide) (by decide) ?_
  exact ⟨rfl, rfl⟩
theorem c_L_removeServer_x (p0 : Int32) (hC : aMt l X mX6_removeServer [0] [.ref 0, .int p0] hx (fun o' h' => o' = .inr IAE ∧ h' = hx)) (hb : aHx hx) (h0 : hx[0]? = some (aOb 6 fs)) : aWr l X mL_removeServer [0, 55] [.ref 0, .int p0, .ref 55] (hx ++ [aLa 1 o]) (some (.int 1)) (hx ++ [aLa 1 o]) := by
  refine aMt.ofH (by decide) rfl (Nat.le_of_ble_eq_true rfl) ?_
  refine a_aload_n dL_removeServer_0 rfl ?_
  refine a_iconst 0 dL_removeServer_1 (by decide) ?_
  refine a_aload_n dL_removeServer_2 rfl ?_
  refine a_iload_n dL_removeServer_3 rfl ?_
  refine lx_callx k_L_removeServer_24 hC dL_removeServer_4 rfl h0 rfl rfl rfl (Nat.le_of_ble_eq_true rfl) ⟨Nat.le_of_ble_eq_true rfl, Nat.le_of_ble_eq_true rfl⟩ hb (fun _ => rfl) ?_
  refine a_catch0 (name := IAE) (x := (0, 8, 11, 13)) rfl (by decide) (by decide) kl_L_13 ca_IllegalArgumentException (lx_ok hb (fun _ => rfl) rfl) ?_
  refine a_astore_n dL_removeServer_11 (by decide) rfl ?_
  refine a_iconst 1 dL_removeServer_12 (by decide) ?_
  refine a_iret rfl dL_removeServer_13 (by decide) (by decide) ?_
  exact ⟨rfl, rfl⟩
theorem k_L_setWeight_28 : aKV mL_setWeight mX6_setWeight 28 2 6 := ⟨cb_X6_setWeight, rfl, ml_L_28, iv_X6_setWeight, sl_X6_setWeight, ⟨_, _, rfl⟩, ⟨Nat.le_of_ble_eq_true rfl, Nat.le_of_ble_eq_true rfl⟩⟩
theorem c_L_setWeight_ok {r : Int32} (p0 : Int32) (p1 : Int32) (hC : aMt l X mX6_setWeight [0] [.ref 0, .int p0, .int p1] hx (fun o' h' => o' = .inl (some (.int r)) ∧ h' = hx')) (hb : aHx hx) (hb' : aHx hx') (h0 : hx[0]? = some (aOb 6 fs)) : aWr l X mL_setWeight [0, 55] [.ref 0, .int p0, .int p1, .ref 55] (hx ++ [aLa 1 o]) (some (.int 0)) (hx' ++ [aLa 1 (vp_updL o 0 r.toInt64)]) := by
  refine aMt.ofH (by decide) rfl (Nat.le_of_ble_eq_true rfl) ?_
  refine a_aload_n dL_setWeight_0 rfl ?_
  refine a_iconst 0 dL_setWeight_1 (by decide) ?_
  refine a_aload_n dL_setWeight_2 rfl ?_
  refine a_iload_n dL_setWeight_3 rfl ?_
  refine a_iload_n dL_setWeight_4 rfl ?_
  refine lx_call k_L_setWeight_28 hC dL_setWeight_5 rfl h0 rfl rfl rfl (Nat.le_of_ble_eq_true rfl) ⟨Nat.le_of_ble_eq_true rfl, Nat.le_of_ble_eq_true rfl⟩ hb hb' (fun _ => rfl) (fun _ => rfl) ?_
  refine a_i2l dL_setWeight_8 ?_
  refine a_last dL_setWeight_9 (aHx_55 hb') one_in ?_
  rw [aHx_set hb']
  refine a_goto 17 dL_setWeight_10 (by decide) ?_
  refine a_iconst 0 dL_setWeight_17 (by decide) ?_
  refine a_iret rfl dL_setWeight_18 (by decide) (by decide) ?_
  exact ⟨rfl, rfl⟩
theorem c_L_setWeight_x (p0 : Int32) (p1 : Int32) (hC : aMt l X mX6_setWeight [0] [.ref 0, .int p0, .int p1] hx (fun o' h' => o' = .inr IAE ∧ h' = hx)) (hb : aHx hx) (h0 : hx[0]? = some (aOb 6 fs)) : aWr l X mL_setWeight [0, 55] [.ref 0, .int p0, .int p1, .ref 55] (hx ++ [aLa 1 o]) (some (.int 1)) (hx ++ [aLa 1 o]) := by
  refine aMt.ofH (by decide) rfl (Nat.le_of_ble_eq_true rfl) ?_
  refine a_aload_n dL_setWeight_0 rfl ?_
  refine a_iconst 0 dL_setWeight_1 (by decide) ?_
  refine a_aload_n dL_setWeight_2 rfl ?_
  refine a_iload_n dL_setWeight_3 rfl ?_
  refine a_iload_n dL_setWeight_4 rfl ?_
  refine lx_callx k_L_setWeight_28 hC dL_setWeight_5 rfl h0 rfl rfl rfl (Nat.le_of_ble_eq_true rfl) ⟨Nat.le_of_ble_eq_true rfl, Nat.le_of_ble_eq_true rfl⟩ hb (fun _ => rfl) ?_
  refine a_catch0 (name := IAE) (x := (0, 10, 13, 13)) rfl (by decide) (by decide) kl_L_13 ca_IllegalArgumentException (lx_ok hb (fun _ => rfl) rfl) ?_
  refine a_astore dL_setWeight_13 (by decide) rfl ?_
  refine a_iconst 1 dL_setWeight_15 (by decide) ?_
  refine a_iret rfl dL_setWeight_16 (by decide) (by decide) ?_
  exact ⟨rfl, rfl⟩
theorem k_L_setUp_31 : aKV mL_setUp mX6_setUp 31 2 6 := ⟨cb_X6_setUp, rfl, ml_L_31, iv_X6_setUp, sl_X6_setUp, ⟨_, _, rfl⟩, ⟨Nat.le_of_ble_eq_true rfl, Nat.le_of_ble_eq_true rfl⟩⟩
theorem c_L_setUp_ok {r : Bool} (p0 : Int32) (p1 : Bool) (hC : aMt l X mX6_setUp [0] [.ref 0, .int p0, .int (bI p1)] hx (fun o' h' => o' = .inl (some (.int (bI r))) ∧ h' = hx')) (hb : aHx hx) (hb' : aHx hx') (h0 : hx[0]? = some (aOb 6 fs)) : aWr l X mL_setUp [0, 55] [.ref 0, .int p0, .int (bI p1), .ref 55] (hx ++ [aLa 1 o]) (some (.int 0)) (hx' ++ [aLa 1 (vp_updL o 0 (if r then 1 else 0))]) := by
  refine aMt.ofH (by decide) rfl (Nat.le_of_ble_eq_true rfl) ?_
  refine a_aload_n dL_setUp_0 rfl ?_
  refine a_iconst 0 dL_setUp_1 (by decide) ?_
  refine a_aload_n dL_setUp_2 rfl ?_
  refine a_iload_n dL_setUp_3 rfl ?_
  refine a_iload_n dL_setUp_4 rfl ?_
  refine lx_call k_L_setUp_31 hC dL_setUp_5 rfl h0 rfl rfl rfl (Nat.le_of_ble_eq_true rfl) ⟨Nat.le_of_ble_eq_true rfl, Nat.le_of_ble_eq_true rfl⟩ hb hb' (fun _ => rfl) (fun _ => rfl) ?_
  cases r with
  | true =>
    refine a_if_eq 15 dL_setUp_8 (by decide) (fun z => absurd z (by decide)) (fun _ => ?_)
    refine a_lconst 1 dL_setUp_11 (by decide) ?_
    refine a_goto 16 dL_setUp_12 (by decide) ?_
    refine a_last dL_setUp_16 (aHx_55 hb') one_in ?_
    rw [aHx_set hb']
    refine a_goto 24 dL_setUp_17 (by decide) ?_
    refine a_iconst 0 dL_setUp_24 (by decide) ?_
    refine a_iret rfl dL_setUp_25 (by decide) (by decide) ?_
    exact ⟨rfl, rfl⟩
  | false =>
    refine a_if_eq 15 dL_setUp_8 (by decide) (fun _ => ?_) (fun z => absurd (by decide) z)
    refine a_lconst 0 dL_setUp_15 (by decide) ?_
    refine a_last dL_setUp_16 (aHx_55 hb') one_in ?_
    rw [aHx_set hb']
    refine a_goto 24 dL_setUp_17 (by decide) ?_
    refine a_iconst 0 dL_setUp_24 (by decide) ?_
    refine a_iret rfl dL_setUp_25 (by decide) (by decide) ?_
    exact ⟨rfl, rfl⟩
theorem c_L_setUp_x (p0 : Int32) (p1 : Bool) (hC : aMt l X mX6_setUp [0] [.ref 0, .int p0, .int (bI p1)] hx (fun o' h' => o' = .inr IAE ∧ h' = hx)) (hb : aHx hx) (h0 : hx[0]? = some (aOb 6 fs)) : aWr l X mL_setUp [0, 55] [.ref 0, .int p0, .int (bI p1), .ref 55] (hx ++ [aLa 1 o]) (some (.int 1)) (hx ++ [aLa 1 o]) := by
  refine aMt.ofH (by decide) rfl (Nat.le_of_ble_eq_true rfl) ?_
  refine a_aload_n dL_setUp_0 rfl ?_
  refine a_iconst 0 dL_setUp_1 (by decide) ?_
  refine a_aload_n dL_setUp_2 rfl ?_
  refine a_iload_n dL_setUp_3 rfl ?_
  refine a_iload_n dL_setUp_4 rfl ?_
  refine lx_callx k_L_setUp_31 hC dL_setUp_5 rfl h0 rfl rfl rfl (Nat.le_of_ble_eq_true rfl) ⟨Nat.le_of_ble_eq_true rfl, Nat.le_of_ble_eq_true rfl⟩ hb (fun _ => rfl) ?_
  refine a_catch0 (name := IAE) (x := (0, 17, 20, 13)) rfl (by decide) (by decide) kl_L_13 ca_IllegalArgumentException (lx_ok hb (fun _ => rfl) rfl) ?_
  refine a_astore dL_setUp_20 (by decide) rfl ?_
  refine a_iconst 1 dL_setUp_22 (by decide) ?_
  refine a_iret rfl dL_setUp_23 (by decide) (by decide) ?_
  exact ⟨rfl, rfl⟩
theorem k_L_serverNamed_35 : aKV mL_serverNamed mX6_serverNamed 35 1 6 := ⟨cb_X6_serverNamed, rfl, ml_L_35, iv_X6_serverNamed, sl_X6_serverNamed, ⟨_, _, rfl⟩, ⟨Nat.le_of_ble_eq_true rfl, Nat.le_of_ble_eq_true rfl⟩⟩
theorem c_L_serverNamed_ok {r : Int32} (p0 : Int32) (hC : aMt l X mX6_serverNamed [0] [.ref 0, .int p0] hx (fun o' h' => o' = .inl (some (.int r)) ∧ h' = hx')) (hb : aHx hx) (hb' : aHx hx') (h0 : hx[0]? = some (aOb 6 fs)) : aWr l X mL_serverNamed [0, 55] [.ref 0, .int p0, .ref 55] (hx ++ [aLa 1 o]) (some (.int 0)) (hx' ++ [aLa 1 (vp_updL o 0 r.toInt64)]) := by
  refine aMt.ofH (by decide) rfl (Nat.le_of_ble_eq_true rfl) ?_
  refine a_aload_n dL_serverNamed_0 rfl ?_
  refine a_iconst 0 dL_serverNamed_1 (by decide) ?_
  refine a_aload_n dL_serverNamed_2 rfl ?_
  refine a_iload_n dL_serverNamed_3 rfl ?_
  refine lx_call k_L_serverNamed_35 hC dL_serverNamed_4 rfl h0 rfl rfl rfl (Nat.le_of_ble_eq_true rfl) ⟨Nat.le_of_ble_eq_true rfl, Nat.le_of_ble_eq_true rfl⟩ hb hb' (fun _ => rfl) (fun _ => rfl) ?_
  refine a_i2l dL_serverNamed_7 ?_
  refine a_last dL_serverNamed_8 (aHx_55 hb') one_in ?_
  rw [aHx_set hb']
  refine a_goto 15 dL_serverNamed_9 (by decide) ?_
  refine a_iconst 0 dL_serverNamed_15 (by decide) ?_
  refine a_iret rfl dL_serverNamed_16 (by decide) (by decide) ?_
  exact ⟨rfl, rfl⟩
theorem c_L_serverNamed_x (p0 : Int32) (hC : aMt l X mX6_serverNamed [0] [.ref 0, .int p0] hx (fun o' h' => o' = .inr IAE ∧ h' = hx)) (hb : aHx hx) (h0 : hx[0]? = some (aOb 6 fs)) : aWr l X mL_serverNamed [0, 55] [.ref 0, .int p0, .ref 55] (hx ++ [aLa 1 o]) (some (.int 1)) (hx ++ [aLa 1 o]) := by
  refine aMt.ofH (by decide) rfl (Nat.le_of_ble_eq_true rfl) ?_
  refine a_aload_n dL_serverNamed_0 rfl ?_
  refine a_iconst 0 dL_serverNamed_1 (by decide) ?_
  refine a_aload_n dL_serverNamed_2 rfl ?_
  refine a_iload_n dL_serverNamed_3 rfl ?_
  refine lx_callx k_L_serverNamed_35 hC dL_serverNamed_4 rfl h0 rfl rfl rfl (Nat.le_of_ble_eq_true rfl) ⟨Nat.le_of_ble_eq_true rfl, Nat.le_of_ble_eq_true rfl⟩ hb (fun _ => rfl) ?_
  refine a_catch0 (name := IAE) (x := (0, 9, 12, 13)) rfl (by decide) (by decide) kl_L_13 ca_IllegalArgumentException (lx_ok hb (fun _ => rfl) rfl) ?_
  refine a_astore_n dL_serverNamed_12 (by decide) rfl ?_
  refine a_iconst 1 dL_serverNamed_13 (by decide) ?_
  refine a_iret rfl dL_serverNamed_14 (by decide) (by decide) ?_
  exact ⟨rfl, rfl⟩
theorem k_L_preference_38 : aKV mL_preference mX6_preference 38 2 6 := ⟨cb_X6_preference, rfl, ml_L_38, iv_X6_preference, sl_X6_preference, ⟨_, _, rfl⟩, ⟨Nat.le_of_ble_eq_true rfl, Nat.le_of_ble_eq_true rfl⟩⟩
theorem c_L_preference_ok {r : Int32} (p0 : Int32) (p1 : Int32) (hC : aMt l X mX6_preference [0] [.ref 0, .int p0, .int p1] hx (fun o' h' => o' = .inl (some (.int r)) ∧ h' = hx')) (hb : aHx hx) (hb' : aHx hx') (h0 : hx[0]? = some (aOb 6 fs)) : aWr l X mL_preference [0, 55] [.ref 0, .int p0, .int p1, .ref 55] (hx ++ [aLa 1 o]) (some (.int 0)) (hx' ++ [aLa 1 (vp_updL o 0 r.toInt64)]) := by
  refine aMt.ofH (by decide) rfl (Nat.le_of_ble_eq_true rfl) ?_
  refine a_aload_n dL_preference_0 rfl ?_
  refine a_iconst 0 dL_preference_1 (by decide) ?_
  refine a_aload_n dL_preference_2 rfl ?_
  refine a_iload_n dL_preference_3 rfl ?_
  refine a_iload_n dL_preference_4 rfl ?_
  refine lx_call k_L_preference_38 hC dL_preference_5 rfl h0 rfl rfl rfl (Nat.le_of_ble_eq_true rfl) ⟨Nat.le_of_ble_eq_true rfl, Nat.le_of_ble_eq_true rfl⟩ hb hb' (fun _ => rfl) (fun _ => rfl) ?_
  refine a_i2l dL_preference_8 ?_
  refine a_last dL_preference_9 (aHx_55 hb') one_in ?_
  rw [aHx_set hb']
  refine a_goto 17 dL_preference_10 (by decide) ?_
  refine a_iconst 0 dL_preference_17 (by decide) ?_
  refine a_iret rfl dL_preference_18 (by decide) (by decide) ?_
  exact ⟨rfl, rfl⟩
theorem c_L_preference_x (p0 : Int32) (p1 : Int32) (hC : aMt l X mX6_preference [0] [.ref 0, .int p0, .int p1] hx (fun o' h' => o' = .inr IAE ∧ h' = hx)) (hb : aHx hx) (h0 : hx[0]? = some (aOb 6 fs)) : aWr l X mL_preference [0, 55] [.ref 0, .int p0, .int p1, .ref 55] (hx ++ [aLa 1 o]) (some (.int 1)) (hx ++ [aLa 1 o]) := by
  refine aMt.ofH (by decide) rfl (Nat.le_of_ble_eq_true rfl) ?_
  refine a_aload_n dL_preference_0 rfl ?_
  refine a_iconst 0 dL_preference_1 (by decide) ?_
  refine a_aload_n dL_preference_2 rfl ?_
  refine a_iload_n dL_preference_3 rfl ?_
  refine a_iload_n dL_preference_4 rfl ?_
  refine lx_callx k_L_preference_38 hC dL_preference_5 rfl h0 rfl rfl rfl (Nat.le_of_ble_eq_true rfl) ⟨Nat.le_of_ble_eq_true rfl, Nat.le_of_ble_eq_true rfl⟩ hb (fun _ => rfl) ?_
  refine a_catch0 (name := IAE) (x := (0, 10, 13, 13)) rfl (by decide) (by decide) kl_L_13 ca_IllegalArgumentException (lx_ok hb (fun _ => rfl) rfl) ?_
  refine a_astore dL_preference_13 (by decide) rfl ?_
  refine a_iconst 1 dL_preference_15 (by decide) ?_
  refine a_iret rfl dL_preference_16 (by decide) (by decide) ?_
  exact ⟨rfl, rfl⟩
theorem k_L_slotsOf_41 : aKV mL_slotsOf mX6_slotsOf 41 1 6 := ⟨cb_X6_slotsOf, rfl, ml_L_41, iv_X6_slotsOf, sl_X6_slotsOf, ⟨_, _, rfl⟩, ⟨Nat.le_of_ble_eq_true rfl, Nat.le_of_ble_eq_true rfl⟩⟩
theorem c_L_slotsOf_ok {r : Int32} (p0 : Int32) (hC : aMt l X mX6_slotsOf [0] [.ref 0, .int p0] hx (fun o' h' => o' = .inl (some (.int r)) ∧ h' = hx')) (hb : aHx hx) (hb' : aHx hx') (h0 : hx[0]? = some (aOb 6 fs)) : aWr l X mL_slotsOf [0, 55] [.ref 0, .int p0, .ref 55] (hx ++ [aLa 1 o]) (some (.int 0)) (hx' ++ [aLa 1 (vp_updL o 0 r.toInt64)]) := by
  refine aMt.ofH (by decide) rfl (Nat.le_of_ble_eq_true rfl) ?_
  refine a_aload_n dL_slotsOf_0 rfl ?_
  refine a_iconst 0 dL_slotsOf_1 (by decide) ?_
  refine a_aload_n dL_slotsOf_2 rfl ?_
  refine a_iload_n dL_slotsOf_3 rfl ?_
  refine lx_call k_L_slotsOf_41 hC dL_slotsOf_4 rfl h0 rfl rfl rfl (Nat.le_of_ble_eq_true rfl) ⟨Nat.le_of_ble_eq_true rfl, Nat.le_of_ble_eq_true rfl⟩ hb hb' (fun _ => rfl) (fun _ => rfl) ?_
  refine a_i2l dL_slotsOf_7 ?_
  refine a_last dL_slotsOf_8 (aHx_55 hb') one_in ?_
  rw [aHx_set hb']
  refine a_goto 15 dL_slotsOf_9 (by decide) ?_
  refine a_iconst 0 dL_slotsOf_15 (by decide) ?_
  refine a_iret rfl dL_slotsOf_16 (by decide) (by decide) ?_
  exact ⟨rfl, rfl⟩
theorem c_L_slotsOf_x (p0 : Int32) (hC : aMt l X mX6_slotsOf [0] [.ref 0, .int p0] hx (fun o' h' => o' = .inr IAE ∧ h' = hx)) (hb : aHx hx) (h0 : hx[0]? = some (aOb 6 fs)) : aWr l X mL_slotsOf [0, 55] [.ref 0, .int p0, .ref 55] (hx ++ [aLa 1 o]) (some (.int 1)) (hx ++ [aLa 1 o]) := by
  refine aMt.ofH (by decide) rfl (Nat.le_of_ble_eq_true rfl) ?_
  refine a_aload_n dL_slotsOf_0 rfl ?_
  refine a_iconst 0 dL_slotsOf_1 (by decide) ?_
  refine a_aload_n dL_slotsOf_2 rfl ?_
  refine a_iload_n dL_slotsOf_3 rfl ?_
  refine lx_callx k_L_slotsOf_41 hC dL_slotsOf_4 rfl h0 rfl rfl rfl (Nat.le_of_ble_eq_true rfl) ⟨Nat.le_of_ble_eq_true rfl, Nat.le_of_ble_eq_true rfl⟩ hb (fun _ => rfl) ?_
  refine a_catch0 (name := IAE) (x := (0, 9, 12, 13)) rfl (by decide) (by decide) kl_L_13 ca_IllegalArgumentException (lx_ok hb (fun _ => rfl) rfl) ?_
  refine a_astore_n dL_slotsOf_12 (by decide) rfl ?_
  refine a_iconst 1 dL_slotsOf_13 (by decide) ?_
  refine a_iret rfl dL_slotsOf_14 (by decide) (by decide) ?_
  exact ⟨rfl, rfl⟩
theorem k_L_idealShare_44 : aKV mL_idealShare mX6_idealShare 44 1 6 := ⟨cb_X6_idealShare, rfl, ml_L_44, iv_X6_idealShare, sl_X6_idealShare, ⟨_, _, rfl⟩, ⟨Nat.le_of_ble_eq_true rfl, Nat.le_of_ble_eq_true rfl⟩⟩
theorem c_L_idealShare_ok {r : UInt64} (p0 : Int32) (hC : aMt l X mX6_idealShare [0] [.ref 0, .int p0] hx (fun o' h' => o' = .inl (some (.double r)) ∧ h' = hx')) (hb : aHx hx) (hb' : aHx hx') (h0 : hx[0]? = some (aOb 6 fs)) : aWr l X mL_idealShare [0, 55] [.ref 0, .int p0, .ref 55] (hx ++ [aDa 1 d]) (some (.int 0)) (hx' ++ [aDa 1 (vf_upd d 0 r)]) := by
  refine aMt.ofH (by decide) rfl (Nat.le_of_ble_eq_true rfl) ?_
  refine a_aload_n dL_idealShare_0 rfl ?_
  refine a_iconst 0 dL_idealShare_1 (by decide) ?_
  refine a_aload_n dL_idealShare_2 rfl ?_
  refine a_iload_n dL_idealShare_3 rfl ?_
  refine lx_call k_L_idealShare_44 hC dL_idealShare_4 rfl h0 rfl rfl rfl (Nat.le_of_ble_eq_true rfl) ⟨Nat.le_of_ble_eq_true rfl, Nat.le_of_ble_eq_true rfl⟩ hb hb' (fun _ => rfl) (fun _ => rfl) ?_
  refine a_dast dL_idealShare_7 (aHx_55 hb') one_in ?_
  rw [aHx_set hb']
  refine a_goto 14 dL_idealShare_8 (by decide) ?_
  refine a_iconst 0 dL_idealShare_14 (by decide) ?_
  refine a_iret rfl dL_idealShare_15 (by decide) (by decide) ?_
  exact ⟨rfl, rfl⟩
theorem c_L_idealShare_x (p0 : Int32) (hC : aMt l X mX6_idealShare [0] [.ref 0, .int p0] hx (fun o' h' => o' = .inr IAE ∧ h' = hx)) (hb : aHx hx) (h0 : hx[0]? = some (aOb 6 fs)) : aWr l X mL_idealShare [0, 55] [.ref 0, .int p0, .ref 55] (hx ++ [aDa 1 d]) (some (.int 1)) (hx ++ [aDa 1 d]) := by
  refine aMt.ofH (by decide) rfl (Nat.le_of_ble_eq_true rfl) ?_
  refine a_aload_n dL_idealShare_0 rfl ?_
  refine a_iconst 0 dL_idealShare_1 (by decide) ?_
  refine a_aload_n dL_idealShare_2 rfl ?_
  refine a_iload_n dL_idealShare_3 rfl ?_
  refine lx_callx k_L_idealShare_44 hC dL_idealShare_4 rfl h0 rfl rfl rfl (Nat.le_of_ble_eq_true rfl) ⟨Nat.le_of_ble_eq_true rfl, Nat.le_of_ble_eq_true rfl⟩ hb (fun _ => rfl) ?_
  refine a_catch0 (name := IAE) (x := (0, 8, 11, 13)) rfl (by decide) (by decide) kl_L_13 ca_IllegalArgumentException (lx_ok hb (fun _ => rfl) rfl) ?_
  refine a_astore_n dL_idealShare_11 (by decide) rfl ?_
  refine a_iconst 1 dL_idealShare_12 (by decide) ?_
  refine a_iret rfl dL_idealShare_13 (by decide) (by decide) ?_
  exact ⟨rfl, rfl⟩
theorem k_L_removalDisruption_48 : aKV mL_removalDisruption mX6_removalDisruption 48 1 6 := ⟨cb_X6_removalDisruption, rfl, ml_L_48, iv_X6_removalDisruption, sl_X6_removalDisruption, ⟨_, _, rfl⟩, ⟨Nat.le_of_ble_eq_true rfl, Nat.le_of_ble_eq_true rfl⟩⟩
theorem c_L_removalDisruption_ok {r : Int32} (p0 : Int32) (hC : aMt l X mX6_removalDisruption [0] [.ref 0, .int p0] hx (fun o' h' => o' = .inl (some (.int r)) ∧ h' = hx')) (hb : aHx hx) (hb' : aHx hx') (h0 : hx[0]? = some (aOb 6 fs)) : aWr l X mL_removalDisruption [0, 55] [.ref 0, .int p0, .ref 55] (hx ++ [aLa 1 o]) (some (.int 0)) (hx' ++ [aLa 1 (vp_updL o 0 r.toInt64)]) := by
  refine aMt.ofH (by decide) rfl (Nat.le_of_ble_eq_true rfl) ?_
  refine a_aload_n dL_removalDisruption_0 rfl ?_
  refine a_iconst 0 dL_removalDisruption_1 (by decide) ?_
  refine a_aload_n dL_removalDisruption_2 rfl ?_
  refine a_iload_n dL_removalDisruption_3 rfl ?_
  refine lx_call k_L_removalDisruption_48 hC dL_removalDisruption_4 rfl h0 rfl rfl rfl (Nat.le_of_ble_eq_true rfl) ⟨Nat.le_of_ble_eq_true rfl, Nat.le_of_ble_eq_true rfl⟩ hb hb' (fun _ => rfl) (fun _ => rfl) ?_
  refine a_i2l dL_removalDisruption_7 ?_
  refine a_last dL_removalDisruption_8 (aHx_55 hb') one_in ?_
  rw [aHx_set hb']
  refine a_goto 15 dL_removalDisruption_9 (by decide) ?_
  refine a_iconst 0 dL_removalDisruption_15 (by decide) ?_
  refine a_iret rfl dL_removalDisruption_16 (by decide) (by decide) ?_
  exact ⟨rfl, rfl⟩
theorem c_L_removalDisruption_x (p0 : Int32) (hC : aMt l X mX6_removalDisruption [0] [.ref 0, .int p0] hx (fun o' h' => o' = .inr IAE ∧ h' = hx)) (hb : aHx hx) (h0 : hx[0]? = some (aOb 6 fs)) : aWr l X mL_removalDisruption [0, 55] [.ref 0, .int p0, .ref 55] (hx ++ [aLa 1 o]) (some (.int 1)) (hx ++ [aLa 1 o]) := by
  refine aMt.ofH (by decide) rfl (Nat.le_of_ble_eq_true rfl) ?_
  refine a_aload_n dL_removalDisruption_0 rfl ?_
  refine a_iconst 0 dL_removalDisruption_1 (by decide) ?_
  refine a_aload_n dL_removalDisruption_2 rfl ?_
  refine a_iload_n dL_removalDisruption_3 rfl ?_
  refine lx_callx k_L_removalDisruption_48 hC dL_removalDisruption_4 rfl h0 rfl rfl rfl (Nat.le_of_ble_eq_true rfl) ⟨Nat.le_of_ble_eq_true rfl, Nat.le_of_ble_eq_true rfl⟩ hb (fun _ => rfl) ?_
  refine a_catch0 (name := IAE) (x := (0, 9, 12, 13)) rfl (by decide) (by decide) kl_L_13 ca_IllegalArgumentException (lx_ok hb (fun _ => rfl) rfl) ?_
  refine a_astore_n dL_removalDisruption_12 (by decide) rfl ?_
  refine a_iconst 1 dL_removalDisruption_13 (by decide) ?_
  refine a_iret rfl dL_removalDisruption_14 (by decide) (by decide) ?_
  exact ⟨rfl, rfl⟩
theorem k_L_serverOf_51 : aKV mL_serverOf mX6_serverOf 51 1 6 := ⟨cb_X6_serverOf, rfl, ml_L_51, iv_X6_serverOf, sl_X6_serverOf, ⟨_, _, rfl⟩, ⟨Nat.le_of_ble_eq_true rfl, Nat.le_of_ble_eq_true rfl⟩⟩
theorem c_L_serverOf_ok {r : Int32} (p0 : Int32) (hC : aMt l X mX6_serverOf [0] [.ref 0, .int p0] hx (fun o' h' => o' = .inl (some (.int r)) ∧ h' = hx')) (hb : aHx hx) (hb' : aHx hx') (h0 : hx[0]? = some (aOb 6 fs)) : aWr l X mL_serverOf [0, 55] [.ref 0, .int p0, .ref 55] (hx ++ [aLa 1 o]) (some (.int 0)) (hx' ++ [aLa 1 (vp_updL o 0 r.toInt64)]) := by
  refine aMt.ofH (by decide) rfl (Nat.le_of_ble_eq_true rfl) ?_
  refine a_aload_n dL_serverOf_0 rfl ?_
  refine a_iconst 0 dL_serverOf_1 (by decide) ?_
  refine a_aload_n dL_serverOf_2 rfl ?_
  refine a_iload_n dL_serverOf_3 rfl ?_
  refine lx_call k_L_serverOf_51 hC dL_serverOf_4 rfl h0 rfl rfl rfl (Nat.le_of_ble_eq_true rfl) ⟨Nat.le_of_ble_eq_true rfl, Nat.le_of_ble_eq_true rfl⟩ hb hb' (fun _ => rfl) (fun _ => rfl) ?_
  refine a_i2l dL_serverOf_7 ?_
  refine a_last dL_serverOf_8 (aHx_55 hb') one_in ?_
  rw [aHx_set hb']
  refine a_goto 15 dL_serverOf_9 (by decide) ?_
  refine a_iconst 0 dL_serverOf_15 (by decide) ?_
  refine a_iret rfl dL_serverOf_16 (by decide) (by decide) ?_
  exact ⟨rfl, rfl⟩
theorem c_L_serverOf_x (p0 : Int32) (hC : aMt l X mX6_serverOf [0] [.ref 0, .int p0] hx (fun o' h' => o' = .inr IAE ∧ h' = hx)) (hb : aHx hx) (h0 : hx[0]? = some (aOb 6 fs)) : aWr l X mL_serverOf [0, 55] [.ref 0, .int p0, .ref 55] (hx ++ [aLa 1 o]) (some (.int 1)) (hx ++ [aLa 1 o]) := by
  refine aMt.ofH (by decide) rfl (Nat.le_of_ble_eq_true rfl) ?_
  refine a_aload_n dL_serverOf_0 rfl ?_
  refine a_iconst 0 dL_serverOf_1 (by decide) ?_
  refine a_aload_n dL_serverOf_2 rfl ?_
  refine a_iload_n dL_serverOf_3 rfl ?_
  refine lx_callx k_L_serverOf_51 hC dL_serverOf_4 rfl h0 rfl rfl rfl (Nat.le_of_ble_eq_true rfl) ⟨Nat.le_of_ble_eq_true rfl, Nat.le_of_ble_eq_true rfl⟩ hb (fun _ => rfl) ?_
  refine a_catch0 (name := IAE) (x := (0, 9, 12, 13)) rfl (by decide) (by decide) kl_L_13 ca_IllegalArgumentException (lx_ok hb (fun _ => rfl) rfl) ?_
  refine a_astore_n dL_serverOf_12 (by decide) rfl ?_
  refine a_iconst 1 dL_serverOf_13 (by decide) ?_
  refine a_iret rfl dL_serverOf_14 (by decide) (by decide) ?_
  exact ⟨rfl, rfl⟩
theorem k_L_request_54 : aKV mL_request mX6_request 54 2 6 := ⟨cb_X6_request, rfl, ml_L_54, iv_X6_request, sl_X6_request, ⟨_, _, rfl⟩, ⟨Nat.le_of_ble_eq_true rfl, Nat.le_of_ble_eq_true rfl⟩⟩
theorem c_L_request_ok {r : Int32} (p0 : Int32) (p1 : Int32) (hC : aMt l X mX6_request [0] [.ref 0, .int p0, .int p1] hx (fun o' h' => o' = .inl (some (.int r)) ∧ h' = hx')) (hb : aHx hx) (hb' : aHx hx') (h0 : hx[0]? = some (aOb 6 fs)) : aWr l X mL_request [0, 55] [.ref 0, .int p0, .int p1, .ref 55] (hx ++ [aLa 1 o]) (some (.int 0)) (hx' ++ [aLa 1 (vp_updL o 0 r.toInt64)]) := by
  refine aMt.ofH (by decide) rfl (Nat.le_of_ble_eq_true rfl) ?_
  refine a_aload_n dL_request_0 rfl ?_
  refine a_iconst 0 dL_request_1 (by decide) ?_
  refine a_aload_n dL_request_2 rfl ?_
  refine a_iload_n dL_request_3 rfl ?_
  refine a_iload_n dL_request_4 rfl ?_
  refine lx_call k_L_request_54 hC dL_request_5 rfl h0 rfl rfl rfl (Nat.le_of_ble_eq_true rfl) ⟨Nat.le_of_ble_eq_true rfl, Nat.le_of_ble_eq_true rfl⟩ hb hb' (fun _ => rfl) (fun _ => rfl) ?_
  refine a_i2l dL_request_8 ?_
  refine a_last dL_request_9 (aHx_55 hb') one_in ?_
  rw [aHx_set hb']
  refine a_goto 17 dL_request_10 (by decide) ?_
  refine a_iconst 0 dL_request_17 (by decide) ?_
  refine a_iret rfl dL_request_18 (by decide) (by decide) ?_
  exact ⟨rfl, rfl⟩
theorem c_L_request_x (p0 : Int32) (p1 : Int32) (hC : aMt l X mX6_request [0] [.ref 0, .int p0, .int p1] hx (fun o' h' => o' = .inr IAE ∧ h' = hx)) (hb : aHx hx) (h0 : hx[0]? = some (aOb 6 fs)) : aWr l X mL_request [0, 55] [.ref 0, .int p0, .int p1, .ref 55] (hx ++ [aLa 1 o]) (some (.int 1)) (hx ++ [aLa 1 o]) := by
  refine aMt.ofH (by decide) rfl (Nat.le_of_ble_eq_true rfl) ?_
  refine a_aload_n dL_request_0 rfl ?_
  refine a_iconst 0 dL_request_1 (by decide) ?_
  refine a_aload_n dL_request_2 rfl ?_
  refine a_iload_n dL_request_3 rfl ?_
  refine a_iload_n dL_request_4 rfl ?_
  refine lx_callx k_L_request_54 hC dL_request_5 rfl h0 rfl rfl rfl (Nat.le_of_ble_eq_true rfl) ⟨Nat.le_of_ble_eq_true rfl, Nat.le_of_ble_eq_true rfl⟩ hb (fun _ => rfl) ?_
  refine a_catch0 (name := IAE) (x := (0, 10, 13, 13)) rfl (by decide) (by decide) kl_L_13 ca_IllegalArgumentException (lx_ok hb (fun _ => rfl) rfl) ?_
  refine a_astore dL_request_13 (by decide) rfl ?_
  refine a_iconst 1 dL_request_15 (by decide) ?_
  refine a_iret rfl dL_request_16 (by decide) (by decide) ?_
  exact ⟨rfl, rfl⟩
theorem k_L_loadOf_57 : aKV mL_loadOf mX6_loadOf 57 1 6 := ⟨cb_X6_loadOf, rfl, ml_L_57, iv_X6_loadOf, sl_X6_loadOf, ⟨_, _, rfl⟩, ⟨Nat.le_of_ble_eq_true rfl, Nat.le_of_ble_eq_true rfl⟩⟩
theorem c_L_loadOf_ok {r : Int64} (p0 : Int32) (hC : aMt l X mX6_loadOf [0] [.ref 0, .int p0] hx (fun o' h' => o' = .inl (some (.long r)) ∧ h' = hx')) (hb : aHx hx) (hb' : aHx hx') (h0 : hx[0]? = some (aOb 6 fs)) : aWr l X mL_loadOf [0, 55] [.ref 0, .int p0, .ref 55] (hx ++ [aLa 1 o]) (some (.int 0)) (hx' ++ [aLa 1 (vp_updL o 0 r)]) := by
  refine aMt.ofH (by decide) rfl (Nat.le_of_ble_eq_true rfl) ?_
  refine a_aload_n dL_loadOf_0 rfl ?_
  refine a_iconst 0 dL_loadOf_1 (by decide) ?_
  refine a_aload_n dL_loadOf_2 rfl ?_
  refine a_iload_n dL_loadOf_3 rfl ?_
  refine lx_call k_L_loadOf_57 hC dL_loadOf_4 rfl h0 rfl rfl rfl (Nat.le_of_ble_eq_true rfl) ⟨Nat.le_of_ble_eq_true rfl, Nat.le_of_ble_eq_true rfl⟩ hb hb' (fun _ => rfl) (fun _ => rfl) ?_
  refine a_last dL_loadOf_7 (aHx_55 hb') one_in ?_
  rw [aHx_set hb']
  refine a_goto 14 dL_loadOf_8 (by decide) ?_
  refine a_iconst 0 dL_loadOf_14 (by decide) ?_
  refine a_iret rfl dL_loadOf_15 (by decide) (by decide) ?_
  exact ⟨rfl, rfl⟩
theorem c_L_loadOf_x (p0 : Int32) (hC : aMt l X mX6_loadOf [0] [.ref 0, .int p0] hx (fun o' h' => o' = .inr IAE ∧ h' = hx)) (hb : aHx hx) (h0 : hx[0]? = some (aOb 6 fs)) : aWr l X mL_loadOf [0, 55] [.ref 0, .int p0, .ref 55] (hx ++ [aLa 1 o]) (some (.int 1)) (hx ++ [aLa 1 o]) := by
  refine aMt.ofH (by decide) rfl (Nat.le_of_ble_eq_true rfl) ?_
  refine a_aload_n dL_loadOf_0 rfl ?_
  refine a_iconst 0 dL_loadOf_1 (by decide) ?_
  refine a_aload_n dL_loadOf_2 rfl ?_
  refine a_iload_n dL_loadOf_3 rfl ?_
  refine lx_callx k_L_loadOf_57 hC dL_loadOf_4 rfl h0 rfl rfl rfl (Nat.le_of_ble_eq_true rfl) ⟨Nat.le_of_ble_eq_true rfl, Nat.le_of_ble_eq_true rfl⟩ hb (fun _ => rfl) ?_
  refine a_catch0 (name := IAE) (x := (0, 8, 11, 13)) rfl (by decide) (by decide) kl_L_13 ca_IllegalArgumentException (lx_ok hb (fun _ => rfl) rfl) ?_
  refine a_astore_n dL_loadOf_11 (by decide) rfl ?_
  refine a_iconst 1 dL_loadOf_12 (by decide) ?_
  refine a_iret rfl dL_loadOf_13 (by decide) (by decide) ?_
  exact ⟨rfl, rfl⟩
theorem k_L_rankedServer_60 : aKV mL_rankedServer mX6_rankedServer 60 1 6 := ⟨cb_X6_rankedServer, rfl, ml_L_60, iv_X6_rankedServer, sl_X6_rankedServer, ⟨_, _, rfl⟩, ⟨Nat.le_of_ble_eq_true rfl, Nat.le_of_ble_eq_true rfl⟩⟩
theorem c_L_rankedServer_ok {r : Int32} (p0 : Int32) (hC : aMt l X mX6_rankedServer [0] [.ref 0, .int p0] hx (fun o' h' => o' = .inl (some (.int r)) ∧ h' = hx')) (hb : aHx hx) (hb' : aHx hx') (h0 : hx[0]? = some (aOb 6 fs)) : aWr l X mL_rankedServer [0, 55] [.ref 0, .int p0, .ref 55] (hx ++ [aLa 1 o]) (some (.int 0)) (hx' ++ [aLa 1 (vp_updL o 0 r.toInt64)]) := by
  refine aMt.ofH (by decide) rfl (Nat.le_of_ble_eq_true rfl) ?_
  refine a_aload_n dL_rankedServer_0 rfl ?_
  refine a_iconst 0 dL_rankedServer_1 (by decide) ?_
  refine a_aload_n dL_rankedServer_2 rfl ?_
  refine a_iload_n dL_rankedServer_3 rfl ?_
  refine lx_call k_L_rankedServer_60 hC dL_rankedServer_4 rfl h0 rfl rfl rfl (Nat.le_of_ble_eq_true rfl) ⟨Nat.le_of_ble_eq_true rfl, Nat.le_of_ble_eq_true rfl⟩ hb hb' (fun _ => rfl) (fun _ => rfl) ?_
  refine a_i2l dL_rankedServer_7 ?_
  refine a_last dL_rankedServer_8 (aHx_55 hb') one_in ?_
  rw [aHx_set hb']
  refine a_goto 15 dL_rankedServer_9 (by decide) ?_
  refine a_iconst 0 dL_rankedServer_15 (by decide) ?_
  refine a_iret rfl dL_rankedServer_16 (by decide) (by decide) ?_
  exact ⟨rfl, rfl⟩
theorem c_L_rankedServer_x (p0 : Int32) (hC : aMt l X mX6_rankedServer [0] [.ref 0, .int p0] hx (fun o' h' => o' = .inr IOE ∧ h' = hx)) (hb : aHx hx) (h0 : hx[0]? = some (aOb 6 fs)) : aWr l X mL_rankedServer [0, 55] [.ref 0, .int p0, .ref 55] (hx ++ [aLa 1 o]) (some (.int 1)) (hx ++ [aLa 1 o]) := by
  refine aMt.ofH (by decide) rfl (Nat.le_of_ble_eq_true rfl) ?_
  refine a_aload_n dL_rankedServer_0 rfl ?_
  refine a_iconst 0 dL_rankedServer_1 (by decide) ?_
  refine a_aload_n dL_rankedServer_2 rfl ?_
  refine a_iload_n dL_rankedServer_3 rfl ?_
  refine lx_callx k_L_rankedServer_60 hC dL_rankedServer_4 rfl h0 rfl rfl rfl (Nat.le_of_ble_eq_true rfl) ⟨Nat.le_of_ble_eq_true rfl, Nat.le_of_ble_eq_true rfl⟩ hb (fun _ => rfl) ?_
  refine a_catch0 (name := IOE) (x := (0, 9, 12, 63)) rfl (by decide) (by decide) kl_L_63 ca_IndexOutOfBoundsException (lx_ok hb (fun _ => rfl) rfl) ?_
  refine a_astore_n dL_rankedServer_12 (by decide) rfl ?_
  refine a_iconst 1 dL_rankedServer_13 (by decide) ?_
  refine a_iret rfl dL_rankedServer_14 (by decide) (by decide) ?_
  exact ⟨rfl, rfl⟩
theorem k_L_pin_65 : aKV mL_pin mX6_pin 65 2 6 := ⟨cb_X6_pin, rfl, ml_L_65, iv_X6_pin, sl_X6_pin, ⟨_, _, rfl⟩, ⟨Nat.le_of_ble_eq_true rfl, Nat.le_of_ble_eq_true rfl⟩⟩
theorem c_L_pin_ok {r : Int32} (p0 : Int32) (p1 : Int32) (hC : aMt l X mX6_pin [0] [.ref 0, .int p0, .int p1] hx (fun o' h' => o' = .inl (some (.int r)) ∧ h' = hx')) (hb : aHx hx) (hb' : aHx hx') (h0 : hx[0]? = some (aOb 6 fs)) : aWr l X mL_pin [0, 55] [.ref 0, .int p0, .int p1, .ref 55] (hx ++ [aLa 1 o]) (some (.int 0)) (hx' ++ [aLa 1 (vp_updL o 0 r.toInt64)]) := by
  refine aMt.ofH (by decide) rfl (Nat.le_of_ble_eq_true rfl) ?_
  refine a_aload_n dL_pin_0 rfl ?_
  refine a_iconst 0 dL_pin_1 (by decide) ?_
  refine a_aload_n dL_pin_2 rfl ?_
  refine a_iload_n dL_pin_3 rfl ?_
  refine a_iload_n dL_pin_4 rfl ?_
  refine lx_call k_L_pin_65 hC dL_pin_5 rfl h0 rfl rfl rfl (Nat.le_of_ble_eq_true rfl) ⟨Nat.le_of_ble_eq_true rfl, Nat.le_of_ble_eq_true rfl⟩ hb hb' (fun _ => rfl) (fun _ => rfl) ?_
  refine a_i2l dL_pin_8 ?_
  refine a_last dL_pin_9 (aHx_55 hb') one_in ?_
  rw [aHx_set hb']
  refine a_goto 21 dL_pin_10 (by decide) ?_
  refine a_iconst 0 dL_pin_21 (by decide) ?_
  refine a_iret rfl dL_pin_22 (by decide) (by decide) ?_
  exact ⟨rfl, rfl⟩
theorem c_L_pin_x (p0 : Int32) (p1 : Int32) (hC : aMt l X mX6_pin [0] [.ref 0, .int p0, .int p1] hx (fun o' h' => o' = .inr IAE ∧ h' = hx)) (hb : aHx hx) (h0 : hx[0]? = some (aOb 6 fs)) : aWr l X mL_pin [0, 55] [.ref 0, .int p0, .int p1, .ref 55] (hx ++ [aLa 1 o]) (some (.int 1)) (hx ++ [aLa 1 o]) := by
  refine aMt.ofH (by decide) rfl (Nat.le_of_ble_eq_true rfl) ?_
  refine a_aload_n dL_pin_0 rfl ?_
  refine a_iconst 0 dL_pin_1 (by decide) ?_
  refine a_aload_n dL_pin_2 rfl ?_
  refine a_iload_n dL_pin_3 rfl ?_
  refine a_iload_n dL_pin_4 rfl ?_
  refine lx_callx k_L_pin_65 hC dL_pin_5 rfl h0 rfl rfl rfl (Nat.le_of_ble_eq_true rfl) ⟨Nat.le_of_ble_eq_true rfl, Nat.le_of_ble_eq_true rfl⟩ hb (fun _ => rfl) ?_
  refine a_catch0 (name := IAE) (x := (0, 10, 13, 13)) rfl (by decide) (by decide) kl_L_13 ca_IllegalArgumentException (lx_ok hb (fun _ => rfl) rfl) ?_
  refine a_astore dL_pin_13 (by decide) rfl ?_
  refine a_iconst 1 dL_pin_15 (by decide) ?_
  refine a_iret rfl dL_pin_16 (by decide) (by decide) ?_
  exact ⟨rfl, rfl⟩
theorem c_L_pin_y (p0 : Int32) (p1 : Int32) (hC : aMt l X mX6_pin [0] [.ref 0, .int p0, .int p1] hx (fun o' h' => o' = .inr ISE ∧ h' = hx)) (hb : aHx hx) (h0 : hx[0]? = some (aOb 6 fs)) : aWr l X mL_pin [0, 55] [.ref 0, .int p0, .int p1, .ref 55] (hx ++ [aLa 1 o]) (some (.int 2)) (hx ++ [aLa 1 o]) := by
  refine aMt.ofH (by decide) rfl (Nat.le_of_ble_eq_true rfl) ?_
  refine a_aload_n dL_pin_0 rfl ?_
  refine a_iconst 0 dL_pin_1 (by decide) ?_
  refine a_aload_n dL_pin_2 rfl ?_
  refine a_iload_n dL_pin_3 rfl ?_
  refine a_iload_n dL_pin_4 rfl ?_
  refine lx_callx k_L_pin_65 hC dL_pin_5 rfl h0 rfl rfl rfl (Nat.le_of_ble_eq_true rfl) ⟨Nat.le_of_ble_eq_true rfl, Nat.le_of_ble_eq_true rfl⟩ hb (fun _ => rfl) ?_
  refine a_catch1 (name := ISE) (y := (0, 10, 13, 13)) (x := (0, 10, 17, 22)) rfl (by decide) kl_L_13 (by decide) (by decide) kl_L_22 ca_IllegalStateException (lx_ok hb (fun _ => rfl) rfl) ?_
  refine a_astore dL_pin_17 (by decide) rfl ?_
  refine a_iconst 2 dL_pin_19 (by decide) ?_
  refine a_iret rfl dL_pin_20 (by decide) (by decide) ?_
  exact ⟨rfl, rfl⟩
theorem k_L_unpin_68 : aKV mL_unpin mX6_unpin 68 1 6 := ⟨cb_X6_unpin, rfl, ml_L_68, iv_X6_unpin, sl_X6_unpin, ⟨_, _, rfl⟩, ⟨Nat.le_of_ble_eq_true rfl, Nat.le_of_ble_eq_true rfl⟩⟩
theorem c_L_unpin_ok {r : Int32} (p0 : Int32) (hC : aMt l X mX6_unpin [0] [.ref 0, .int p0] hx (fun o' h' => o' = .inl (some (.int r)) ∧ h' = hx')) (hb : aHx hx) (hb' : aHx hx') (h0 : hx[0]? = some (aOb 6 fs)) : aWr l X mL_unpin [0, 55] [.ref 0, .int p0, .ref 55] (hx ++ [aLa 1 o]) (some (.int 0)) (hx' ++ [aLa 1 (vp_updL o 0 r.toInt64)]) := by
  refine aMt.ofH (by decide) rfl (Nat.le_of_ble_eq_true rfl) ?_
  refine a_aload_n dL_unpin_0 rfl ?_
  refine a_iconst 0 dL_unpin_1 (by decide) ?_
  refine a_aload_n dL_unpin_2 rfl ?_
  refine a_iload_n dL_unpin_3 rfl ?_
  refine lx_call k_L_unpin_68 hC dL_unpin_4 rfl h0 rfl rfl rfl (Nat.le_of_ble_eq_true rfl) ⟨Nat.le_of_ble_eq_true rfl, Nat.le_of_ble_eq_true rfl⟩ hb hb' (fun _ => rfl) (fun _ => rfl) ?_
  refine a_i2l dL_unpin_7 ?_
  refine a_last dL_unpin_8 (aHx_55 hb') one_in ?_
  rw [aHx_set hb']
  refine a_goto 15 dL_unpin_9 (by decide) ?_
  refine a_iconst 0 dL_unpin_15 (by decide) ?_
  refine a_iret rfl dL_unpin_16 (by decide) (by decide) ?_
  exact ⟨rfl, rfl⟩
theorem c_L_unpin_x (p0 : Int32) (hC : aMt l X mX6_unpin [0] [.ref 0, .int p0] hx (fun o' h' => o' = .inr IAE ∧ h' = hx)) (hb : aHx hx) (h0 : hx[0]? = some (aOb 6 fs)) : aWr l X mL_unpin [0, 55] [.ref 0, .int p0, .ref 55] (hx ++ [aLa 1 o]) (some (.int 1)) (hx ++ [aLa 1 o]) := by
  refine aMt.ofH (by decide) rfl (Nat.le_of_ble_eq_true rfl) ?_
  refine a_aload_n dL_unpin_0 rfl ?_
  refine a_iconst 0 dL_unpin_1 (by decide) ?_
  refine a_aload_n dL_unpin_2 rfl ?_
  refine a_iload_n dL_unpin_3 rfl ?_
  refine lx_callx k_L_unpin_68 hC dL_unpin_4 rfl h0 rfl rfl rfl (Nat.le_of_ble_eq_true rfl) ⟨Nat.le_of_ble_eq_true rfl, Nat.le_of_ble_eq_true rfl⟩ hb (fun _ => rfl) ?_
  refine a_catch0 (name := IAE) (x := (0, 9, 12, 13)) rfl (by decide) (by decide) kl_L_13 ca_IllegalArgumentException (lx_ok hb (fun _ => rfl) rfl) ?_
  refine a_astore_n dL_unpin_12 (by decide) rfl ?_
  refine a_iconst 1 dL_unpin_13 (by decide) ?_
  refine a_iret rfl dL_unpin_14 (by decide) (by decide) ?_
  exact ⟨rfl, rfl⟩
theorem k_L_pinHottest_71 : aKV mL_pinHottest mX6_pinHottest 71 0 6 := ⟨cb_X6_pinHottest, rfl, ml_L_71, iv_X6_pinHottest, sl_X6_pinHottest, ⟨_, _, rfl⟩, ⟨Nat.le_of_ble_eq_true rfl, Nat.le_of_ble_eq_true rfl⟩⟩
theorem c_L_pinHottest_ok {r : Int32} (hC : aMt l X mX6_pinHottest [0] [.ref 0] hx (fun o' h' => o' = .inl (some (.int r)) ∧ h' = hx')) (hb : aHx hx) (hb' : aHx hx') (h0 : hx[0]? = some (aOb 6 fs)) : aWr l X mL_pinHottest [0, 55] [.ref 0, .ref 55] (hx ++ [aLa 1 o]) (some (.int 0)) (hx' ++ [aLa 1 (vp_updL o 0 r.toInt64)]) := by
  refine aMt.ofH (by decide) rfl (Nat.le_of_ble_eq_true rfl) ?_
  refine a_aload_n dL_pinHottest_0 rfl ?_
  refine a_iconst 0 dL_pinHottest_1 (by decide) ?_
  refine a_aload_n dL_pinHottest_2 rfl ?_
  refine lx_call k_L_pinHottest_71 hC dL_pinHottest_3 rfl h0 rfl rfl rfl (Nat.le_of_ble_eq_true rfl) ⟨Nat.le_of_ble_eq_true rfl, Nat.le_of_ble_eq_true rfl⟩ hb hb' (fun _ => rfl) (fun _ => rfl) ?_
  refine a_i2l dL_pinHottest_6 ?_
  refine a_last dL_pinHottest_7 (aHx_55 hb') one_in ?_
  rw [aHx_set hb']
  refine a_goto 14 dL_pinHottest_8 (by decide) ?_
  refine a_iconst 0 dL_pinHottest_14 (by decide) ?_
  refine a_iret rfl dL_pinHottest_15 (by decide) (by decide) ?_
  exact ⟨rfl, rfl⟩
theorem c_L_pinHottest_x (hC : aMt l X mX6_pinHottest [0] [.ref 0] hx (fun o' h' => o' = .inr ISE ∧ h' = hx)) (hb : aHx hx) (h0 : hx[0]? = some (aOb 6 fs)) : aWr l X mL_pinHottest [0, 55] [.ref 0, .ref 55] (hx ++ [aLa 1 o]) (some (.int 1)) (hx ++ [aLa 1 o]) := by
  refine aMt.ofH (by decide) rfl (Nat.le_of_ble_eq_true rfl) ?_
  refine a_aload_n dL_pinHottest_0 rfl ?_
  refine a_iconst 0 dL_pinHottest_1 (by decide) ?_
  refine a_aload_n dL_pinHottest_2 rfl ?_
  refine lx_callx k_L_pinHottest_71 hC dL_pinHottest_3 rfl h0 rfl rfl rfl (Nat.le_of_ble_eq_true rfl) ⟨Nat.le_of_ble_eq_true rfl, Nat.le_of_ble_eq_true rfl⟩ hb (fun _ => rfl) ?_
  refine a_catch0 (name := ISE) (x := (0, 8, 11, 22)) rfl (by decide) (by decide) kl_L_22 ca_IllegalStateException (lx_ok hb (fun _ => rfl) rfl) ?_
  refine a_astore_n dL_pinHottest_11 (by decide) rfl ?_
  refine a_iconst 1 dL_pinHottest_12 (by decide) ?_
  refine a_iret rfl dL_pinHottest_13 (by decide) (by decide) ?_
  exact ⟨rfl, rfl⟩
theorem k_L_hotKey_75 : aKV mL_hotKey mX6_hotKey 75 1 6 := ⟨cb_X6_hotKey, rfl, ml_L_75, iv_X6_hotKey, sl_X6_hotKey, ⟨_, _, rfl⟩, ⟨Nat.le_of_ble_eq_true rfl, Nat.le_of_ble_eq_true rfl⟩⟩
theorem c_L_hotKey_ok {r : Int32} (p0 : Int32) (hC : aMt l X mX6_hotKey [0] [.ref 0, .int p0] hx (fun o' h' => o' = .inl (some (.int r)) ∧ h' = hx')) (hb : aHx hx) (hb' : aHx hx') (h0 : hx[0]? = some (aOb 6 fs)) : aWr l X mL_hotKey [0, 55] [.ref 0, .int p0, .ref 55] (hx ++ [aLa 1 o]) (some (.int 0)) (hx' ++ [aLa 1 (vp_updL o 0 r.toInt64)]) := by
  refine aMt.ofH (by decide) rfl (Nat.le_of_ble_eq_true rfl) ?_
  refine a_aload_n dL_hotKey_0 rfl ?_
  refine a_iconst 0 dL_hotKey_1 (by decide) ?_
  refine a_aload_n dL_hotKey_2 rfl ?_
  refine a_iload_n dL_hotKey_3 rfl ?_
  refine lx_call k_L_hotKey_75 hC dL_hotKey_4 rfl h0 rfl rfl rfl (Nat.le_of_ble_eq_true rfl) ⟨Nat.le_of_ble_eq_true rfl, Nat.le_of_ble_eq_true rfl⟩ hb hb' (fun _ => rfl) (fun _ => rfl) ?_
  refine a_i2l dL_hotKey_7 ?_
  refine a_last dL_hotKey_8 (aHx_55 hb') one_in ?_
  rw [aHx_set hb']
  refine a_goto 15 dL_hotKey_9 (by decide) ?_
  refine a_iconst 0 dL_hotKey_15 (by decide) ?_
  refine a_iret rfl dL_hotKey_16 (by decide) (by decide) ?_
  exact ⟨rfl, rfl⟩
theorem c_L_hotKey_x (p0 : Int32) (hC : aMt l X mX6_hotKey [0] [.ref 0, .int p0] hx (fun o' h' => o' = .inr IOE ∧ h' = hx)) (hb : aHx hx) (h0 : hx[0]? = some (aOb 6 fs)) : aWr l X mL_hotKey [0, 55] [.ref 0, .int p0, .ref 55] (hx ++ [aLa 1 o]) (some (.int 1)) (hx ++ [aLa 1 o]) := by
  refine aMt.ofH (by decide) rfl (Nat.le_of_ble_eq_true rfl) ?_
  refine a_aload_n dL_hotKey_0 rfl ?_
  refine a_iconst 0 dL_hotKey_1 (by decide) ?_
  refine a_aload_n dL_hotKey_2 rfl ?_
  refine a_iload_n dL_hotKey_3 rfl ?_
  refine lx_callx k_L_hotKey_75 hC dL_hotKey_4 rfl h0 rfl rfl rfl (Nat.le_of_ble_eq_true rfl) ⟨Nat.le_of_ble_eq_true rfl, Nat.le_of_ble_eq_true rfl⟩ hb (fun _ => rfl) ?_
  refine a_catch0 (name := IOE) (x := (0, 9, 12, 63)) rfl (by decide) (by decide) kl_L_63 ca_IndexOutOfBoundsException (lx_ok hb (fun _ => rfl) rfl) ?_
  refine a_astore_n dL_hotKey_12 (by decide) rfl ?_
  refine a_iconst 1 dL_hotKey_13 (by decide) ?_
  refine a_iret rfl dL_hotKey_14 (by decide) (by decide) ?_
  exact ⟨rfl, rfl⟩
theorem k_L_hotCount_78 : aKV mL_hotCount mX6_hotCount 78 1 6 := ⟨cb_X6_hotCount, rfl, ml_L_78, iv_X6_hotCount, sl_X6_hotCount, ⟨_, _, rfl⟩, ⟨Nat.le_of_ble_eq_true rfl, Nat.le_of_ble_eq_true rfl⟩⟩
theorem c_L_hotCount_ok {r : Int64} (p0 : Int32) (hC : aMt l X mX6_hotCount [0] [.ref 0, .int p0] hx (fun o' h' => o' = .inl (some (.long r)) ∧ h' = hx')) (hb : aHx hx) (hb' : aHx hx') (h0 : hx[0]? = some (aOb 6 fs)) : aWr l X mL_hotCount [0, 55] [.ref 0, .int p0, .ref 55] (hx ++ [aLa 1 o]) (some (.int 0)) (hx' ++ [aLa 1 (vp_updL o 0 r)]) := by
  refine aMt.ofH (by decide) rfl (Nat.le_of_ble_eq_true rfl) ?_
  refine a_aload_n dL_hotCount_0 rfl ?_
  refine a_iconst 0 dL_hotCount_1 (by decide) ?_
  refine a_aload_n dL_hotCount_2 rfl ?_
  refine a_iload_n dL_hotCount_3 rfl ?_
  refine lx_call k_L_hotCount_78 hC dL_hotCount_4 rfl h0 rfl rfl rfl (Nat.le_of_ble_eq_true rfl) ⟨Nat.le_of_ble_eq_true rfl, Nat.le_of_ble_eq_true rfl⟩ hb hb' (fun _ => rfl) (fun _ => rfl) ?_
  refine a_last dL_hotCount_7 (aHx_55 hb') one_in ?_
  rw [aHx_set hb']
  refine a_goto 14 dL_hotCount_8 (by decide) ?_
  refine a_iconst 0 dL_hotCount_14 (by decide) ?_
  refine a_iret rfl dL_hotCount_15 (by decide) (by decide) ?_
  exact ⟨rfl, rfl⟩
theorem c_L_hotCount_x (p0 : Int32) (hC : aMt l X mX6_hotCount [0] [.ref 0, .int p0] hx (fun o' h' => o' = .inr IOE ∧ h' = hx)) (hb : aHx hx) (h0 : hx[0]? = some (aOb 6 fs)) : aWr l X mL_hotCount [0, 55] [.ref 0, .int p0, .ref 55] (hx ++ [aLa 1 o]) (some (.int 1)) (hx ++ [aLa 1 o]) := by
  refine aMt.ofH (by decide) rfl (Nat.le_of_ble_eq_true rfl) ?_
  refine a_aload_n dL_hotCount_0 rfl ?_
  refine a_iconst 0 dL_hotCount_1 (by decide) ?_
  refine a_aload_n dL_hotCount_2 rfl ?_
  refine a_iload_n dL_hotCount_3 rfl ?_
  refine lx_callx k_L_hotCount_78 hC dL_hotCount_4 rfl h0 rfl rfl rfl (Nat.le_of_ble_eq_true rfl) ⟨Nat.le_of_ble_eq_true rfl, Nat.le_of_ble_eq_true rfl⟩ hb (fun _ => rfl) ?_
  refine a_catch0 (name := IOE) (x := (0, 8, 11, 63)) rfl (by decide) (by decide) kl_L_63 ca_IndexOutOfBoundsException (lx_ok hb (fun _ => rfl) rfl) ?_
  refine a_astore_n dL_hotCount_11 (by decide) rfl ?_
  refine a_iconst 1 dL_hotCount_12 (by decide) ?_
  refine a_iret rfl dL_hotCount_13 (by decide) (by decide) ?_
  exact ⟨rfl, rfl⟩
theorem k_L_hotError_81 : aKV mL_hotError mX6_hotError 81 1 6 := ⟨cb_X6_hotError, rfl, ml_L_81, iv_X6_hotError, sl_X6_hotError, ⟨_, _, rfl⟩, ⟨Nat.le_of_ble_eq_true rfl, Nat.le_of_ble_eq_true rfl⟩⟩
theorem c_L_hotError_ok {r : Int64} (p0 : Int32) (hC : aMt l X mX6_hotError [0] [.ref 0, .int p0] hx (fun o' h' => o' = .inl (some (.long r)) ∧ h' = hx')) (hb : aHx hx) (hb' : aHx hx') (h0 : hx[0]? = some (aOb 6 fs)) : aWr l X mL_hotError [0, 55] [.ref 0, .int p0, .ref 55] (hx ++ [aLa 1 o]) (some (.int 0)) (hx' ++ [aLa 1 (vp_updL o 0 r)]) := by
  refine aMt.ofH (by decide) rfl (Nat.le_of_ble_eq_true rfl) ?_
  refine a_aload_n dL_hotError_0 rfl ?_
  refine a_iconst 0 dL_hotError_1 (by decide) ?_
  refine a_aload_n dL_hotError_2 rfl ?_
  refine a_iload_n dL_hotError_3 rfl ?_
  refine lx_call k_L_hotError_81 hC dL_hotError_4 rfl h0 rfl rfl rfl (Nat.le_of_ble_eq_true rfl) ⟨Nat.le_of_ble_eq_true rfl, Nat.le_of_ble_eq_true rfl⟩ hb hb' (fun _ => rfl) (fun _ => rfl) ?_
  refine a_last dL_hotError_7 (aHx_55 hb') one_in ?_
  rw [aHx_set hb']
  refine a_goto 14 dL_hotError_8 (by decide) ?_
  refine a_iconst 0 dL_hotError_14 (by decide) ?_
  refine a_iret rfl dL_hotError_15 (by decide) (by decide) ?_
  exact ⟨rfl, rfl⟩
theorem c_L_hotError_x (p0 : Int32) (hC : aMt l X mX6_hotError [0] [.ref 0, .int p0] hx (fun o' h' => o' = .inr IOE ∧ h' = hx)) (hb : aHx hx) (h0 : hx[0]? = some (aOb 6 fs)) : aWr l X mL_hotError [0, 55] [.ref 0, .int p0, .ref 55] (hx ++ [aLa 1 o]) (some (.int 1)) (hx ++ [aLa 1 o]) := by
  refine aMt.ofH (by decide) rfl (Nat.le_of_ble_eq_true rfl) ?_
  refine a_aload_n dL_hotError_0 rfl ?_
  refine a_iconst 0 dL_hotError_1 (by decide) ?_
  refine a_aload_n dL_hotError_2 rfl ?_
  refine a_iload_n dL_hotError_3 rfl ?_
  refine lx_callx k_L_hotError_81 hC dL_hotError_4 rfl h0 rfl rfl rfl (Nat.le_of_ble_eq_true rfl) ⟨Nat.le_of_ble_eq_true rfl, Nat.le_of_ble_eq_true rfl⟩ hb (fun _ => rfl) ?_
  refine a_catch0 (name := IOE) (x := (0, 8, 11, 63)) rfl (by decide) (by decide) kl_L_63 ca_IndexOutOfBoundsException (lx_ok hb (fun _ => rfl) rfl) ?_
  refine a_astore_n dL_hotError_11 (by decide) rfl ?_
  refine a_iconst 1 dL_hotError_12 (by decide) ?_
  refine a_iret rfl dL_hotError_13 (by decide) (by decide) ?_
  exact ⟨rfl, rfl⟩
theorem k_L_undo_84 : aKV mL_undo mX6_undo 84 0 6 := ⟨cb_X6_undo, rfl, ml_L_84, iv_X6_undo, sl_X6_undo, ⟨_, _, rfl⟩, ⟨Nat.le_of_ble_eq_true rfl, Nat.le_of_ble_eq_true rfl⟩⟩
theorem c_L_undo_ok {r : Int32} (hC : aMt l X mX6_undo [0] [.ref 0] hx (fun o' h' => o' = .inl (some (.int r)) ∧ h' = hx')) (hb : aHx hx) (hb' : aHx hx') (h0 : hx[0]? = some (aOb 6 fs)) : aWr l X mL_undo [0, 55] [.ref 0, .ref 55] (hx ++ [aLa 1 o]) (some (.int 0)) (hx' ++ [aLa 1 (vp_updL o 0 r.toInt64)]) := by
  refine aMt.ofH (by decide) rfl (Nat.le_of_ble_eq_true rfl) ?_
  refine a_aload_n dL_undo_0 rfl ?_
  refine a_iconst 0 dL_undo_1 (by decide) ?_
  refine a_aload_n dL_undo_2 rfl ?_
  refine lx_call k_L_undo_84 hC dL_undo_3 rfl h0 rfl rfl rfl (Nat.le_of_ble_eq_true rfl) ⟨Nat.le_of_ble_eq_true rfl, Nat.le_of_ble_eq_true rfl⟩ hb hb' (fun _ => rfl) (fun _ => rfl) ?_
  refine a_i2l dL_undo_6 ?_
  refine a_last dL_undo_7 (aHx_55 hb') one_in ?_
  rw [aHx_set hb']
  refine a_goto 14 dL_undo_8 (by decide) ?_
  refine a_iconst 0 dL_undo_14 (by decide) ?_
  refine a_iret rfl dL_undo_15 (by decide) (by decide) ?_
  exact ⟨rfl, rfl⟩
theorem c_L_undo_x (hC : aMt l X mX6_undo [0] [.ref 0] hx (fun o' h' => o' = .inr ISE ∧ h' = hx)) (hb : aHx hx) (h0 : hx[0]? = some (aOb 6 fs)) : aWr l X mL_undo [0, 55] [.ref 0, .ref 55] (hx ++ [aLa 1 o]) (some (.int 1)) (hx ++ [aLa 1 o]) := by
  refine aMt.ofH (by decide) rfl (Nat.le_of_ble_eq_true rfl) ?_
  refine a_aload_n dL_undo_0 rfl ?_
  refine a_iconst 0 dL_undo_1 (by decide) ?_
  refine a_aload_n dL_undo_2 rfl ?_
  refine lx_callx k_L_undo_84 hC dL_undo_3 rfl h0 rfl rfl rfl (Nat.le_of_ble_eq_true rfl) ⟨Nat.le_of_ble_eq_true rfl, Nat.le_of_ble_eq_true rfl⟩ hb (fun _ => rfl) ?_
  refine a_catch0 (name := ISE) (x := (0, 8, 11, 22)) rfl (by decide) (by decide) kl_L_22 ca_IllegalStateException (lx_ok hb (fun _ => rfl) rfl) ?_
  refine a_astore_n dL_undo_11 (by decide) rfl ?_
  refine a_iconst 1 dL_undo_12 (by decide) ?_
  refine a_iret rfl dL_undo_13 (by decide) (by decide) ?_
  exact ⟨rfl, rfl⟩
end LAW
