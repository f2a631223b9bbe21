/-! written by wip/whole/pp.py out of wip/whole/src/24.pt3.lean -/
theorem dX6_serverAt_0 : decode cX6_serverAt 0 = .ok (.aload_n 0, 1) := by decide +kernel
theorem dX6_serverAt_1 : decode cX6_serverAt 1 = .ok (.getfield 28, 3) := by decide +kernel
theorem dX6_serverAt_4 : decode cX6_serverAt 4 = .ok (.iload_n 1, 1) := by decide +kernel
theorem dX6_serverAt_5 : decode cX6_serverAt 5 = .ok (.invokevirtual 70, 3) := by decide +kernel
theorem dX6_serverAt_8 : decode cX6_serverAt 8 = .ok (.ifCond .ne 13, 3) := by decide +kernel
theorem dX6_serverAt_11 : decode cX6_serverAt 11 = .ok (.new 50, 3) := by decide +kernel
theorem dX6_serverAt_14 : decode cX6_serverAt 14 = .ok (.dup, 1) := by decide +kernel
theorem dX6_serverAt_15 : decode cX6_serverAt 15 = .ok (.ldc 73, 2) := by decide +kernel
theorem dX6_serverAt_17 : decode cX6_serverAt 17 = .ok (.invokespecial 54, 3) := by decide +kernel
theorem dX6_serverAt_20 : decode cX6_serverAt 20 = .ok (.athrow, 1) := by decide +kernel
theorem dX6_serverAt_21 : decode cX6_serverAt 21 = .ok (.aload_n 0, 1) := by decide +kernel
theorem dX6_serverAt_22 : decode cX6_serverAt 22 = .ok (.getfield 28, 3) := by decide +kernel
theorem dX6_serverAt_25 : decode cX6_serverAt 25 = .ok (.iload_n 1, 1) := by decide +kernel
theorem dX6_serverAt_26 : decode cX6_serverAt 26 = .ok (.invokevirtual 75, 3) := by decide +kernel
theorem dX6_serverAt_29 : decode cX6_serverAt 29 = .ok (.ireturn, 1) := by decide +kernel
theorem dX6_disruption_0 : decode cX6_disruption 0 = .ok (.aload_n 0, 1) := by decide +kernel
theorem dX6_disruption_1 : decode cX6_disruption 1 = .ok (.getfield 28, 3) := by decide +kernel
theorem dX6_disruption_4 : decode cX6_disruption 4 = .ok (.invokevirtual 79, 3) := by decide +kernel
theorem dX6_disruption_7 : decode cX6_disruption 7 = .ok (.ireturn, 1) := by decide +kernel
theorem dX6_forcedDisruption_0 : decode cX6_forcedDisruption 0 = .ok (.aload_n 0, 1) := by decide +kernel
theorem dX6_forcedDisruption_1 : decode cX6_forcedDisruption 1 = .ok (.getfield 28, 3) := by decide +kernel
theorem dX6_forcedDisruption_4 : decode cX6_forcedDisruption 4 = .ok (.invokevirtual 82, 3) := by decide +kernel
theorem dX6_forcedDisruption_7 : decode cX6_forcedDisruption 7 = .ok (.ireturn, 1) := by decide +kernel
theorem dX6_serverCount_0 : decode cX6_serverCount 0 = .ok (.aload_n 0, 1) := by decide +kernel
theorem dX6_serverCount_1 : decode cX6_serverCount 1 = .ok (.getfield 10, 3) := by decide +kernel
theorem dX6_serverCount_4 : decode cX6_serverCount 4 = .ok (.invokevirtual 150, 3) := by decide +kernel
theorem dX6_serverCount_7 : decode cX6_serverCount 7 = .ok (.ireturn, 1) := by decide +kernel
theorem dX6_serverNamed_0 : decode cX6_serverNamed 0 = .ok (.iload_n 1, 1) := by decide +kernel
theorem dX6_serverNamed_1 : decode cX6_serverNamed 1 = .ok (.invokestatic 92, 3) := by decide +kernel
theorem dX6_serverNamed_4 : decode cX6_serverNamed 4 = .ok (.aload_n 0, 1) := by decide +kernel
theorem dX6_serverNamed_5 : decode cX6_serverNamed 5 = .ok (.getfield 10, 3) := by decide +kernel
theorem dX6_serverNamed_8 : decode cX6_serverNamed 8 = .ok (.iload_n 1, 1) := by decide +kernel
theorem dX6_serverNamed_9 : decode cX6_serverNamed 9 = .ok (.invokevirtual 98, 3) := by decide +kernel
theorem dX6_serverNamed_12 : decode cX6_serverNamed 12 = .ok (.ireturn, 1) := by decide +kernel
theorem dX6_preference_0 : decode cX6_preference 0 = .ok (.aload_n 0, 1) := by decide +kernel
theorem dX6_preference_1 : decode cX6_preference 1 = .ok (.iload_n 1, 1) := by decide +kernel
theorem dX6_preference_2 : decode cX6_preference 2 = .ok (.invokevirtual 123, 3) := by decide +kernel
theorem dX6_preference_5 : decode cX6_preference 5 = .ok (.aload_n 0, 1) := by decide +kernel
theorem dX6_preference_6 : decode cX6_preference 6 = .ok (.getfield 28, 3) := by decide +kernel
theorem dX6_preference_9 : decode cX6_preference 9 = .ok (.iload_n 2, 1) := by decide +kernel
theorem dX6_preference_10 : decode cX6_preference 10 = .ok (.invokevirtual 70, 3) := by decide +kernel
theorem dX6_preference_13 : decode cX6_preference 13 = .ok (.ifCond .ne 13, 3) := by decide +kernel
theorem dX6_preference_16 : decode cX6_preference 16 = .ok (.new 50, 3) := by decide +kernel
theorem dX6_preference_19 : decode cX6_preference 19 = .ok (.dup, 1) := by decide +kernel
theorem dX6_preference_20 : decode cX6_preference 20 = .ok (.ldc 151, 2) := by decide +kernel
theorem dX6_preference_22 : decode cX6_preference 22 = .ok (.invokespecial 54, 3) := by decide +kernel
theorem dX6_preference_25 : decode cX6_preference 25 = .ok (.athrow, 1) := by decide +kernel
theorem dX6_preference_26 : decode cX6_preference 26 = .ok (.aload_n 0, 1) := by decide +kernel
theorem dX6_preference_27 : decode cX6_preference 27 = .ok (.getfield 28, 3) := by decide +kernel
theorem dX6_preference_30 : decode cX6_preference 30 = .ok (.aload_n 0, 1) := by decide +kernel
theorem dX6_preference_31 : decode cX6_preference 31 = .ok (.getfield 10, 3) := by decide +kernel
theorem dX6_preference_34 : decode cX6_preference 34 = .ok (.iload_n 1, 1) := by decide +kernel
theorem dX6_preference_35 : decode cX6_preference 35 = .ok (.invokevirtual 153, 3) := by decide +kernel
theorem dX6_preference_38 : decode cX6_preference 38 = .ok (.iload_n 2, 1) := by decide +kernel
theorem dX6_preference_39 : decode cX6_preference 39 = .ok (.invokevirtual 156, 3) := by decide +kernel
theorem dX6_preference_42 : decode cX6_preference 42 = .ok (.ireturn, 1) := by decide +kernel
theorem dX6_slotsOf_0 : decode cX6_slotsOf 0 = .ok (.aload_n 0, 1) := by decide +kernel
theorem dX6_slotsOf_1 : decode cX6_slotsOf 1 = .ok (.iload_n 1, 1) := by decide +kernel
theorem dX6_slotsOf_2 : decode cX6_slotsOf 2 = .ok (.invokevirtual 123, 3) := by decide +kernel
theorem dX6_slotsOf_5 : decode cX6_slotsOf 5 = .ok (.aload_n 0, 1) := by decide +kernel
theorem dX6_slotsOf_6 : decode cX6_slotsOf 6 = .ok (.getfield 28, 3) := by decide +kernel
theorem dX6_slotsOf_9 : decode cX6_slotsOf 9 = .ok (.iload_n 1, 1) := by decide +kernel
theorem dX6_slotsOf_10 : decode cX6_slotsOf 10 = .ok (.invokevirtual 89, 3) := by decide +kernel
theorem dX6_slotsOf_13 : decode cX6_slotsOf 13 = .ok (.ireturn, 1) := by decide +kernel
theorem dX6_removalDisruption_0 : decode cX6_removalDisruption 0 = .ok (.aload_n 0, 1) := by decide +kernel
theorem dX6_removalDisruption_1 : decode cX6_removalDisruption 1 = .ok (.iload_n 1, 1) := by decide +kernel
theorem dX6_removalDisruption_2 : decode cX6_removalDisruption 2 = .ok (.invokevirtual 123, 3) := by decide +kernel
theorem dX6_removalDisruption_5 : decode cX6_removalDisruption 5 = .ok (.aload_n 0, 1) := by decide +kernel
theorem dX6_removalDisruption_6 : decode cX6_removalDisruption 6 = .ok (.getfield 28, 3) := by decide +kernel
theorem dX6_removalDisruption_9 : decode cX6_removalDisruption 9 = .ok (.aload_n 0, 1) := by decide +kernel
theorem dX6_removalDisruption_10 : decode cX6_removalDisruption 10 = .ok (.getfield 10, 3) := by decide +kernel
theorem dX6_removalDisruption_13 : decode cX6_removalDisruption 13 = .ok (.iload_n 1, 1) := by decide +kernel
theorem dX6_removalDisruption_14 : decode cX6_removalDisruption 14 = .ok (.invokevirtual 160, 3) := by decide +kernel
theorem dX6_removalDisruption_17 : decode cX6_removalDisruption 17 = .ok (.ireturn, 1) := by decide +kernel
theorem dX6_loadOf_0 : decode cX6_loadOf 0 = .ok (.aload_n 0, 1) := by decide +kernel
theorem dX6_loadOf_1 : decode cX6_loadOf 1 = .ok (.iload_n 1, 1) := by decide +kernel
theorem dX6_loadOf_2 : decode cX6_loadOf 2 = .ok (.invokevirtual 123, 3) := by decide +kernel
theorem dX6_loadOf_5 : decode cX6_loadOf 5 = .ok (.aload_n 0, 1) := by decide +kernel
theorem dX6_loadOf_6 : decode cX6_loadOf 6 = .ok (.getfield 10, 3) := by decide +kernel
theorem dX6_loadOf_9 : decode cX6_loadOf 9 = .ok (.iload_n 1, 1) := by decide +kernel
theorem dX6_loadOf_10 : decode cX6_loadOf 10 = .ok (.invokevirtual 126, 3) := by decide +kernel
theorem dX6_loadOf_13 : decode cX6_loadOf 13 = .ok (.lreturn, 1) := by decide +kernel
theorem dX6_rankedServer_0 : decode cX6_rankedServer 0 = .ok (.iload_n 1, 1) := by decide +kernel
theorem dX6_rankedServer_1 : decode cX6_rankedServer 1 = .ok (.ifCond .lt 14, 3) := by decide +kernel
theorem dX6_rankedServer_4 : decode cX6_rankedServer 4 = .ok (.iload_n 1, 1) := by decide +kernel
theorem dX6_rankedServer_5 : decode cX6_rankedServer 5 = .ok (.aload_n 0, 1) := by decide +kernel
theorem dX6_rankedServer_6 : decode cX6_rankedServer 6 = .ok (.getfield 10, 3) := by decide +kernel
theorem dX6_rankedServer_9 : decode cX6_rankedServer 9 = .ok (.invokevirtual 179, 3) := by decide +kernel
theorem dX6_rankedServer_12 : decode cX6_rankedServer 12 = .ok (.if_icmp .lt 13, 3) := by decide +kernel
theorem dX6_rankedServer_15 : decode cX6_rankedServer 15 = .ok (.new 182, 3) := by decide +kernel
theorem dX6_rankedServer_18 : decode cX6_rankedServer 18 = .ok (.dup, 1) := by decide +kernel
theorem dX6_rankedServer_19 : decode cX6_rankedServer 19 = .ok (.ldc 184, 2) := by decide +kernel
theorem dX6_rankedServer_21 : decode cX6_rankedServer 21 = .ok (.invokespecial 186, 3) := by decide +kernel
theorem dX6_rankedServer_24 : decode cX6_rankedServer 24 = .ok (.athrow, 1) := by decide +kernel
theorem dX6_rankedServer_25 : decode cX6_rankedServer 25 = .ok (.aload_n 0, 1) := by decide +kernel
theorem dX6_rankedServer_26 : decode cX6_rankedServer 26 = .ok (.getfield 10, 3) := by decide +kernel
theorem dX6_rankedServer_29 : decode cX6_rankedServer 29 = .ok (.iload_n 1, 1) := by decide +kernel
theorem dX6_rankedServer_30 : decode cX6_rankedServer 30 = .ok (.invokevirtual 187, 3) := by decide +kernel
theorem dX6_rankedServer_33 : decode cX6_rankedServer 33 = .ok (.ireturn, 1) := by decide +kernel
theorem dX6_trackedKeys_0 : decode cX6_trackedKeys 0 = .ok (.aload_n 0, 1) := by decide +kernel
theorem dX6_trackedKeys_1 : decode cX6_trackedKeys 1 = .ok (.getfield 35, 3) := by decide +kernel
theorem dX6_trackedKeys_4 : decode cX6_trackedKeys 4 = .ok (.invokevirtual 200, 3) := by decide +kernel
theorem dX6_trackedKeys_7 : decode cX6_trackedKeys 7 = .ok (.ireturn, 1) := by decide +kernel
theorem dX6_hotKey_0 : decode cX6_hotKey 0 = .ok (.aload_n 0, 1) := by decide +kernel
theorem dX6_hotKey_1 : decode cX6_hotKey 1 = .ok (.iload_n 1, 1) := by decide +kernel
theorem dX6_hotKey_2 : decode cX6_hotKey 2 = .ok (.invokevirtual 208, 3) := by decide +kernel
theorem dX6_hotKey_5 : decode cX6_hotKey 5 = .ok (.aload_n 0, 1) := by decide +kernel
theorem dX6_hotKey_6 : decode cX6_hotKey 6 = .ok (.getfield 35, 3) := by decide +kernel
theorem dX6_hotKey_9 : decode cX6_hotKey 9 = .ok (.iload_n 1, 1) := by decide +kernel
theorem dX6_hotKey_10 : decode cX6_hotKey 10 = .ok (.invokevirtual 205, 3) := by decide +kernel
theorem dX6_hotKey_13 : decode cX6_hotKey 13 = .ok (.ireturn, 1) := by decide +kernel
theorem dX6_hotCount_0 : decode cX6_hotCount 0 = .ok (.aload_n 0, 1) := by decide +kernel
theorem dX6_hotCount_1 : decode cX6_hotCount 1 = .ok (.iload_n 1, 1) := by decide +kernel
theorem dX6_hotCount_2 : decode cX6_hotCount 2 = .ok (.invokevirtual 208, 3) := by decide +kernel
theorem dX6_hotCount_5 : decode cX6_hotCount 5 = .ok (.aload_n 0, 1) := by decide +kernel
theorem dX6_hotCount_6 : decode cX6_hotCount 6 = .ok (.getfield 35, 3) := by decide +kernel
theorem dX6_hotCount_9 : decode cX6_hotCount 9 = .ok (.iload_n 1, 1) := by decide +kernel
theorem dX6_hotCount_10 : decode cX6_hotCount 10 = .ok (.invokevirtual 211, 3) := by decide +kernel
theorem dX6_hotCount_13 : decode cX6_hotCount 13 = .ok (.lreturn, 1) := by decide +kernel
theorem dX6_hotError_0 : decode cX6_hotError 0 = .ok (.aload_n 0, 1) := by decide +kernel
theorem dX6_hotError_1 : decode cX6_hotError 1 = .ok (.iload_n 1, 1) := by decide +kernel
theorem dX6_hotError_2 : decode cX6_hotError 2 = .ok (.invokevirtual 208, 3) := by decide +kernel
theorem dX6_hotError_5 : decode cX6_hotError 5 = .ok (.aload_n 0, 1) := by decide +kernel
theorem dX6_hotError_6 : decode cX6_hotError 6 = .ok (.getfield 35, 3) := by decide +kernel
theorem dX6_hotError_9 : decode cX6_hotError 9 = .ok (.iload_n 1, 1) := by decide +kernel
theorem dX6_hotError_10 : decode cX6_hotError 10 = .ok (.invokevirtual 214, 3) := by decide +kernel
theorem dX6_hotError_13 : decode cX6_hotError 13 = .ok (.lreturn, 1) := by decide +kernel
theorem dX6_isSlotCount_0 : decode cX6_isSlotCount 0 = .ok (.getstatic 223, 3) := by decide +kernel
theorem dX6_isSlotCount_3 : decode cX6_isSlotCount 3 = .ok (.astore_n 1, 1) := by decide +kernel
theorem dX6_isSlotCount_4 : decode cX6_isSlotCount 4 = .ok (.aload_n 1, 1) := by decide +kernel
theorem dX6_isSlotCount_5 : decode cX6_isSlotCount 5 = .ok (.arraylength, 1) := by decide +kernel
theorem dX6_isSlotCount_6 : decode cX6_isSlotCount 6 = .ok (.istore_n 2, 1) := by decide +kernel
theorem dX6_isSlotCount_7 : decode cX6_isSlotCount 7 = .ok (.iconst 0, 1) := by decide +kernel
theorem dX6_isSlotCount_8 : decode cX6_isSlotCount 8 = .ok (.istore_n 3, 1) := by decide +kernel
theorem dX6_isSlotCount_9 : decode cX6_isSlotCount 9 = .ok (.iload_n 3, 1) := by decide +kernel
theorem dX6_isSlotCount_10 : decode cX6_isSlotCount 10 = .ok (.iload_n 2, 1) := by decide +kernel
theorem dX6_isSlotCount_11 : decode cX6_isSlotCount 11 = .ok (.if_icmp .ge 22, 3) := by decide +kernel
theorem dX6_isSlotCount_14 : decode cX6_isSlotCount 14 = .ok (.aload_n 1, 1) := by decide +kernel
theorem dX6_isSlotCount_15 : decode cX6_isSlotCount 15 = .ok (.iload_n 3, 1) := by decide +kernel
theorem dX6_isSlotCount_16 : decode cX6_isSlotCount 16 = .ok (.iaload, 1) := by decide +kernel
theorem dX6_isSlotCount_17 : decode cX6_isSlotCount 17 = .ok (.istore 4, 2) := by decide +kernel
theorem dX6_isSlotCount_19 : decode cX6_isSlotCount 19 = .ok (.iload 4, 2) := by decide +kernel
theorem dX6_isSlotCount_21 : decode cX6_isSlotCount 21 = .ok (.iload_n 0, 1) := by decide +kernel
theorem dX6_isSlotCount_22 : decode cX6_isSlotCount 22 = .ok (.if_icmp .ne 5, 3) := by decide +kernel
theorem dX6_isSlotCount_25 : decode cX6_isSlotCount 25 = .ok (.iconst 1, 1) := by decide +kernel
theorem dX6_isSlotCount_26 : decode cX6_isSlotCount 26 = .ok (.ireturn, 1) := by decide +kernel
theorem dX6_isSlotCount_27 : decode cX6_isSlotCount 27 = .ok (.iinc 3 1, 3) := by decide +kernel
theorem dX6_isSlotCount_30 : decode cX6_isSlotCount 30 = .ok (.goto (-21), 3) := by decide +kernel
theorem dX6_isSlotCount_33 : decode cX6_isSlotCount 33 = .ok (.iconst 0, 1) := by decide +kernel
theorem dX6_isSlotCount_34 : decode cX6_isSlotCount 34 = .ok (.ireturn, 1) := by decide +kernel
theorem k_X6_disruption_79 : aKV mX6_disruption mX3_changedSlots 79 0 3 := ⟨cb_X3_changedSlots, rfl, ml_X6_79, iv_X3_changedSlots, sl_X3_changedSlots, ⟨_, _, rfl⟩, ⟨Nat.le_of_ble_eq_true rfl, Nat.le_of_ble_eq_true rfl⟩⟩
theorem k_X6_forcedDisruption_82 : aKV mX6_forcedDisruption mX3_forcedSlots 82 0 3 := ⟨cb_X3_forcedSlots, rfl, ml_X6_82, iv_X3_forcedSlots, sl_X3_forcedSlots, ⟨_, _, rfl⟩, ⟨Nat.le_of_ble_eq_true rfl, Nat.le_of_ble_eq_true rfl⟩⟩
theorem k_X6_serverCount_150 : aKV mX6_serverCount mX0_size 150 0 0 := ⟨cb_X0_size, rfl, ml_X6_150, iv_X0_size, sl_X0_size, ⟨_, _, rfl⟩, ⟨Nat.le_of_ble_eq_true rfl, Nat.le_of_ble_eq_true rfl⟩⟩
theorem k_X6_trackedKeys_200 : aKV mX6_trackedKeys mX5_size 200 0 5 := ⟨cb_X5_size, rfl, ml_X6_200, iv_X5_size, sl_X5_size, ⟨_, _, rfl⟩, ⟨Nat.le_of_ble_eq_true rfl, Nat.le_of_ble_eq_true rfl⟩⟩
theorem k_X6_serverAt_70 : aKV mX6_serverAt mX3_isSlot 70 1 3 := ⟨cb_X3_isSlot, rfl, ml_X6_70, iv_X3_isSlot, sl_X3_isSlot, ⟨_, _, rfl⟩, ⟨Nat.le_of_ble_eq_true rfl, Nat.le_of_ble_eq_true rfl⟩⟩
theorem k_X6_serverAt_75 : aKV mX6_serverAt mX3_owner 75 1 3 := ⟨cb_X3_owner, rfl, ml_X6_75, iv_X3_owner, sl_X3_owner, ⟨_, _, rfl⟩, ⟨Nat.le_of_ble_eq_true rfl, Nat.le_of_ble_eq_true rfl⟩⟩
theorem k_X6_serverNamed_92 : aKS mX6_serverNamed mX6_checkName 92 1 := ⟨cb_X6_checkName, rfl, ml_X6_92, st_X6_checkName, ⟨Nat.le_of_ble_eq_true rfl, Nat.le_of_ble_eq_true rfl⟩⟩
theorem k_X6_serverNamed_98 : aKV mX6_serverNamed mX0_find 98 1 0 := ⟨cb_X0_find, rfl, ml_X6_98, iv_X0_find, sl_X0_find, ⟨_, _, rfl⟩, ⟨Nat.le_of_ble_eq_true rfl, Nat.le_of_ble_eq_true rfl⟩⟩
theorem k_X6_slotsOf_123 : aKV mX6_slotsOf mX6_checkServer 123 1 6 := ⟨cb_X6_checkServer, rfl, ml_X6_123, iv_X6_checkServer, sl_X6_checkServer, ⟨_, _, rfl⟩, ⟨Nat.le_of_ble_eq_true rfl, Nat.le_of_ble_eq_true rfl⟩⟩
theorem k_X6_slotsOf_89 : aKV mX6_slotsOf mX3_ownedBy 89 1 3 := ⟨cb_X3_ownedBy, rfl, ml_X6_89, iv_X3_ownedBy, sl_X3_ownedBy, ⟨_, _, rfl⟩, ⟨Nat.le_of_ble_eq_true rfl, Nat.le_of_ble_eq_true rfl⟩⟩
theorem k_X6_loadOf_123 : aKV mX6_loadOf mX6_checkServer 123 1 6 := ⟨cb_X6_checkServer, rfl, ml_X6_123, iv_X6_checkServer, sl_X6_checkServer, ⟨_, _, rfl⟩, ⟨Nat.le_of_ble_eq_true rfl, Nat.le_of_ble_eq_true rfl⟩⟩
theorem k_X6_loadOf_126 : aKV mX6_loadOf mX0_load 126 1 0 := ⟨cb_X0_load, rfl, ml_X6_126, iv_X0_load, sl_X0_load, ⟨_, _, rfl⟩, ⟨Nat.le_of_ble_eq_true rfl, Nat.le_of_ble_eq_true rfl⟩⟩
theorem k_X6_preference_123 : aKV mX6_preference mX6_checkServer 123 1 6 := ⟨cb_X6_checkServer, rfl, ml_X6_123, iv_X6_checkServer, sl_X6_checkServer, ⟨_, _, rfl⟩, ⟨Nat.le_of_ble_eq_true rfl, Nat.le_of_ble_eq_true rfl⟩⟩
theorem k_X6_preference_70 : aKV mX6_preference mX3_isSlot 70 1 3 := ⟨cb_X3_isSlot, rfl, ml_X6_70, iv_X3_isSlot, sl_X3_isSlot, ⟨_, _, rfl⟩, ⟨Nat.le_of_ble_eq_true rfl, Nat.le_of_ble_eq_true rfl⟩⟩
theorem k_X6_preference_153 : aKV mX6_preference mX0_name 153 1 0 := ⟨cb_X0_name, rfl, ml_X6_153, iv_X0_name, sl_X0_name, ⟨_, _, rfl⟩, ⟨Nat.le_of_ble_eq_true rfl, Nat.le_of_ble_eq_true rfl⟩⟩
theorem k_X6_preference_156 : aKV mX6_preference mX3_preferredSlot 156 2 3 := ⟨cb_X3_preferredSlot, rfl, ml_X6_156, iv_X3_preferredSlot, sl_X3_preferredSlot, ⟨_, _, rfl⟩, ⟨Nat.le_of_ble_eq_true rfl, Nat.le_of_ble_eq_true rfl⟩⟩
theorem k_X6_removalDisruption_123 : aKV mX6_removalDisruption mX6_checkServer 123 1 6 := ⟨cb_X6_checkServer, rfl, ml_X6_123, iv_X6_checkServer, sl_X6_checkServer, ⟨_, _, rfl⟩, ⟨Nat.le_of_ble_eq_true rfl, Nat.le_of_ble_eq_true rfl⟩⟩
theorem k_X6_removalDisruption_160 : aKV mX6_removalDisruption mX3_changedWithout 160 2 3 := ⟨cb_X3_changedWithout, rfl, ml_X6_160, iv_X3_changedWithout, sl_X3_changedWithout, ⟨_, _, rfl⟩, ⟨Nat.le_of_ble_eq_true rfl, Nat.le_of_ble_eq_true rfl⟩⟩
theorem k_X6_rankedServer_179 : aKV mX6_rankedServer mX0_upCount 179 0 0 := ⟨cb_X0_upCount, rfl, ml_X6_179, iv_X0_upCount, sl_X0_upCount, ⟨_, _, rfl⟩, ⟨Nat.le_of_ble_eq_true rfl, Nat.le_of_ble_eq_true rfl⟩⟩
theorem k_X6_rankedServer_187 : aKV mX6_rankedServer mX0_ranked 187 1 0 := ⟨cb_X0_ranked, rfl, ml_X6_187, iv_X0_ranked, sl_X0_ranked, ⟨_, _, rfl⟩, ⟨Nat.le_of_ble_eq_true rfl, Nat.le_of_ble_eq_true rfl⟩⟩
theorem k_X6_hotKey_208 : aKV mX6_hotKey mX6_checkEntry 208 1 6 := ⟨cb_X6_checkEntry, rfl, ml_X6_208, iv_X6_checkEntry, sl_X6_checkEntry, ⟨_, _, rfl⟩, ⟨Nat.le_of_ble_eq_true rfl, Nat.le_of_ble_eq_true rfl⟩⟩
theorem k_X6_hotKey_205 : aKV mX6_hotKey mX5_key 205 1 5 := ⟨cb_X5_key, rfl, ml_X6_205, iv_X5_key, sl_X5_key, ⟨_, _, rfl⟩, ⟨Nat.le_of_ble_eq_true rfl, Nat.le_of_ble_eq_true rfl⟩⟩
theorem k_X6_hotCount_208 : aKV mX6_hotCount mX6_checkEntry 208 1 6 := ⟨cb_X6_checkEntry, rfl, ml_X6_208, iv_X6_checkEntry, sl_X6_checkEntry, ⟨_, _, rfl⟩, ⟨Nat.le_of_ble_eq_true rfl, Nat.le_of_ble_eq_true rfl⟩⟩
theorem k_X6_hotCount_211 : aKV mX6_hotCount mX5_counted 211 1 5 := ⟨cb_X5_counted, rfl, ml_X6_211, iv_X5_counted, sl_X5_counted, ⟨_, _, rfl⟩, ⟨Nat.le_of_ble_eq_true rfl, Nat.le_of_ble_eq_true rfl⟩⟩
theorem k_X6_hotError_208 : aKV mX6_hotError mX6_checkEntry 208 1 6 := ⟨cb_X6_checkEntry, rfl, ml_X6_208, iv_X6_checkEntry, sl_X6_checkEntry, ⟨_, _, rfl⟩, ⟨Nat.le_of_ble_eq_true rfl, Nat.le_of_ble_eq_true rfl⟩⟩
theorem k_X6_hotError_214 : aKV mX6_hotError mX5_error 214 1 5 := ⟨cb_X5_error, rfl, ml_X6_214, iv_X5_error, sl_X5_error, ⟨_, _, rfl⟩, ⟨Nat.le_of_ble_eq_true rfl, Nat.le_of_ble_eq_true rfl⟩⟩
/-! ===== PreferenceTable: its methods ===== -/
def slC (j : Nat) : Int32 := ([5, 7, 11, 13, 17, 19, 23, 29, 31, 37, 41, 43, 47, 53, 59, 61] : List Int32).getD j 0
def aXok (X : aX) : Prop := X.2.2.2.1 0 = 16 ∧ ∀ j, j < 16 → X.2.2.2.2 0 j = slC j
def gSc (s : Int32) : Bool := (aFo (fun j => decide (slC j = s)) 16 0).isSome
theorem fHs_N {t : fT} {s : Int32} (ht : ∀ j, j < 10 → t.1 j ≤ 9999) (h : fHs (cS t).1 s = true) : ∃ i, i < 10 ∧ s = nI i ∧ 0 < t.1 i := by
  have hi := fHs_in h
  obtain ⟨i, h1, rfl⟩ := vp_in_of hi (by decide)
  refine ⟨i, h1, rfl, ?_⟩
  rw [fHs_j h1] at h
  have h2 : ¬ nI (t.1 i) = 0 := of_decide_eq_true h
  rcases Nat.eq_zero_or_pos (t.1 i) with q | q
  · rw [q] at h2; exact absurd rfl h2
  · exact q
theorem fPut_ok {t : fT} {i n w : Nat} (ht : fOk t) (hn : n ≤ 9999) (hw : w ≤ 16) : fOk (fPut t i n w) := by
  refine ⟨fun j hj => ?_, fun j hj => ?_, ht.2.2⟩
  · show dUp t.1 i n j ≤ 9999
    unfold dUp; split
    · exact hn
    · exact ht.1 j hj
  · show dUp t.2.1 i w j ≤ 16
    unfold dUp; split
    · exact hw
    · exact ht.2.1 j hj
theorem fDrp_ok {t : fT} {i : Nat} (ht : fOk t) : fOk (fDrp t i) := by
  refine ⟨fun j hj => ?_, ht.2.1, ht.2.2⟩
  show dUp t.1 i 0 j ≤ 9999
  unfold dUp; split
  · omega
  · exact ht.1 j hj
theorem fSwt_ok {t : fT} {i w : Nat} (ht : fOk t) (hw : w ≤ 16) : fOk (fSwt t i w) := by
  refine ⟨ht.1, fun j hj => ?_, ht.2.2⟩
  show dUp t.2.1 i w j ≤ 16
  unfold dUp; split
  · exact hw
  · exact ht.2.1 j hj
theorem fPin_ok {t : fT} {p : pT} (ht : fOk t) (hp : p.2.2 ≤ 6) : fOk (fPin t p) := ⟨ht.1, ht.2.1, hp⟩
section PT3
variable {l : Launch} {X : aX} {t : fT} {b : bT} {k : kT} {y : hT}
theorem a_xstore_n {M : aM} {F : aPh} {kc ks pc : Nat} {L st : List Value} {h : List aCell} {i : Fin 4} {x : Nat} (hd : decode M.2.1 pc = .ok (.astore_n i, 1)) (hn : (i : Nat) < M.2.2.1) (hw : aLow L i = true) (k : aJ l X M F kc ks (pc + 1) (L.set (i : Nat) (.retAddr x)) st h) : aJ l X M F kc ks pc L (.retAddr x :: st) h :=
  fun p e s m args below meth c H locs ls A ad ad0 B S => lv_astore_n B.1.1 B.1.2.1 hd rfl (aLv.has S.2.2.2) hn rfl (fun ls' hl' => k p e s m args below meth c H locs ls' A ad ad0 B ⟨S.1, S.2.1, S.2.2.1, aLv.put1 (v := .retAddr x) hw hl'⟩)
theorem c_X6_isSlotCount (hX : aXok X) (s : Int32) : aRd l X mX6_isSlotCount [] [.int s] [] (.int (bI (gSc s))) := by
  refine aMt.of (by decide) rfl (Nat.le_of_ble_eq_true rfl) ?_
  generalize hr : aFo (fun j => decide (slC j = s)) 16 0 = r
  have hg : gSc s = r.isSome := by unfold gSc; rw [hr]
  rw [hg]
  refine a_xget qf_X6_223 dX6_isSlotCount_0 ?_
  refine a_xstore_n dX6_isSlotCount_3 (by decide) rfl ?_
  refine a_xload_n dX6_isSlotCount_4 rfl ?_
  refine a_xlen (nI 16) (by decide) dX6_isSlotCount_5 (by rw [hX.1]; rfl) ?_
  refine a_istore_n dX6_isSlotCount_6 (by decide) rfl ?_
  refine a_iconst 0 dX6_isSlotCount_7 (by decide) ?_
  refine a_istore_n dX6_isSlotCount_8 (by decide) rfl ?_
  have lp : ∀ (k j : Nat), j + k = 16 → aFo (fun j => decide (slC j = s)) k j = r → aJ l X mX6_isSlotCount (aEd X mX6_isSlotCount [] (fun o h' => o = .inl (some (.int (bI r.isSome))) ∧ h' = [])) 0 0 9 [.int s, .retAddr 0, .int (nI 16), .int (nI j), .null] [] [] := by
    intro k
    induction k with
    | zero =>
      intro j hj hq
      obtain rfl : j = 16 := by omega
      refine a_iload_n dX6_isSlotCount_9 rfl ?_
      refine a_iload_n dX6_isSlotCount_10 rfl ?_
      refine a_icmp_ge 33 dX6_isSlotCount_11 (by decide) (fun _ => ?_) (fun z => absurd (by decide) z)
      refine a_iconst 0 dX6_isSlotCount_33 (by decide) ?_
      refine a_zret rfl rfl dX6_isSlotCount_34 (by decide) (by decide) ?_
      exact ⟨by rw [← hq]; rfl, rfl⟩
    | succ k ih =>
      intro j hj hq
      refine a_iload_n dX6_isSlotCount_9 rfl ?_
      refine a_iload_n dX6_isSlotCount_10 rfl ?_
      refine a_icmp_ge 33 dX6_isSlotCount_11 (by decide) (fun z => absurd z (nI_ge (b := 16) (by omega) (by decide))) (fun _ => ?_)
      refine a_xload_n dX6_isSlotCount_14 rfl ?_
      refine a_iload_n dX6_isSlotCount_15 rfl ?_
      refine a_xald (by decide) dX6_isSlotCount_16 (by rw [hX.1]; exact vp_in_nI (by omega) (by decide)) ?_
      rw [nI_clamp (by omega), hX.2 j (by omega)]
      refine a_istore dX6_isSlotCount_17 (by decide) rfl ?_
      refine a_iload dX6_isSlotCount_19 rfl ?_
      refine a_iload_n dX6_isSlotCount_21 rfl ?_
      refine a_icmp_ne 27 dX6_isSlotCount_22 (by decide) (fun c22 => ?_) (fun c22 => ?_)
      · refine a_iinc (nI (j + 1)) dX6_isSlotCount_27 rfl (nI_1 _) (by decide) rfl ?_
        refine a_goto 9 dX6_isSlotCount_30 (by decide) ?_
        refine a_drop 4 ?_
        exact ih (j + 1) (by omega) (by rw [← hq]; simp [aFo, c22])
      · refine a_iconst 1 dX6_isSlotCount_25 (by decide) ?_
        refine a_zret rfl rfl dX6_isSlotCount_26 (by decide) (by decide) ?_
        exact ⟨by rw [← hq]; simp [aFo, c22, bI], rfl⟩
  exact lp 16 0 rfl hr
theorem c_X6_disruption : aRd l X mX6_disruption [0] [.ref 0] (aPT t b k y) (.int b.2.2.2.2.1) := by
  refine aMt.of (by decide) rfl (Nat.le_of_ble_eq_true rfl) ?_
  refine a_aload_n dX6_disruption_0 rfl ?_
  refine a_get fl_X6_28 dX6_disruption_1 rfl rfl ?_
  refine a_ViR [9, 10, 11, 12] k_X6_disruption_79 (c_X3_changedSlots (M := b.1) (ow := b.2.1) (dr := b.2.2.1) (tr := b.2.2.2.1) (ch := b.2.2.2.2.1) (fo := b.2.2.2.2.2)) dX6_disruption_4 rfl rfl rfl rfl rfl rfl (Nat.le_of_ble_eq_true rfl) ⟨Nat.le_of_ble_eq_true rfl, Nat.le_of_ble_eq_true rfl⟩ ⟨rfl, rfl⟩ ?_
  refine a_iret rfl dX6_disruption_7 (by decide) (by decide) ?_
  exact ⟨rfl, rfl⟩
theorem c_X6_forcedDisruption : aRd l X mX6_forcedDisruption [0] [.ref 0] (aPT t b k y) (.int b.2.2.2.2.2) := by
  refine aMt.of (by decide) rfl (Nat.le_of_ble_eq_true rfl) ?_
  refine a_aload_n dX6_forcedDisruption_0 rfl ?_
  refine a_get fl_X6_28 dX6_forcedDisruption_1 rfl rfl ?_
  refine a_ViR [9, 10, 11, 12] k_X6_forcedDisruption_82 (c_X3_forcedSlots (M := b.1) (ow := b.2.1) (dr := b.2.2.1) (tr := b.2.2.2.1) (ch := b.2.2.2.2.1) (fo := b.2.2.2.2.2)) dX6_forcedDisruption_4 rfl rfl rfl rfl rfl rfl (Nat.le_of_ble_eq_true rfl) ⟨Nat.le_of_ble_eq_true rfl, Nat.le_of_ble_eq_true rfl⟩ ⟨rfl, rfl⟩ ?_
  refine a_iret rfl dX6_forcedDisruption_7 (by decide) (by decide) ?_
  exact ⟨rfl, rfl⟩
theorem c_X6_serverCount : aRd l X mX6_serverCount [0] [.ref 0] (aPT t b k y) (.int (fSz (cS t).1)) := by
  refine aMt.of (by decide) rfl (Nat.le_of_ble_eq_true rfl) ?_
  refine a_aload_n dX6_serverCount_0 rfl ?_
  refine a_get fl_X6_10 dX6_serverCount_1 rfl rfl ?_
  refine a_ViR [1, 2, 3, 4, 5] k_X6_serverCount_150 (c_X0_size (nm := (cS t).1) (wt := (cS t).2.1) (up := (cS t).2.2.1) (ld := (cS t).2.2.2.1)) dX6_serverCount_4 rfl rfl rfl rfl rfl rfl (Nat.le_of_ble_eq_true rfl) ⟨Nat.le_of_ble_eq_true rfl, Nat.le_of_ble_eq_true rfl⟩ ⟨rfl, rfl⟩ ?_
  refine a_iret rfl dX6_serverCount_7 (by decide) (by decide) ?_
  exact ⟨rfl, rfl⟩
theorem c_X6_trackedKeys : aRd l X mX6_trackedKeys [0] [.ref 0] (aPT t b k y) (.int (nI k.2)) := by
  refine aMt.of (by decide) rfl (Nat.le_of_ble_eq_true rfl) ?_
  refine a_aload_n dX6_trackedKeys_0 rfl ?_
  refine a_get fl_X6_35 dX6_trackedKeys_1 rfl rfl ?_
  refine a_ViR [13, 14, 15, 16] k_X6_trackedKeys_200 (c_X5_size (tk := k.1.1) (tc := k.1.2.1) (te := k.1.2.2) (m := k.2)) dX6_trackedKeys_4 rfl rfl rfl rfl rfl rfl (Nat.le_of_ble_eq_true rfl) ⟨Nat.le_of_ble_eq_true rfl, Nat.le_of_ble_eq_true rfl⟩ ⟨rfl, rfl⟩ ?_
  refine a_iret rfl dX6_trackedKeys_7 (by decide) (by decide) ?_
  exact ⟨rfl, rfl⟩
theorem c_X6_serverAt (hl : l.stackTraces = false) (hb : bOk b) (s : Int32) : aMt l X mX6_serverAt [0] [.ref 0, .int s] (aPT t b k y) (fun o h' => o = (if sSl b.1 s then .inl (some (.int (b.2.1 s.toNatClampNeg))) else .inr IAE) ∧ h' = aPT t b k y) := by
  refine aMt.of (by decide) rfl (Nat.le_of_ble_eq_true rfl) ?_
  refine a_aload_n dX6_serverAt_0 rfl ?_
  refine a_get fl_X6_28 dX6_serverAt_1 rfl rfl ?_
  refine a_iload_n dX6_serverAt_4 rfl ?_
  refine a_ViR [9, 10, 11, 12] k_X6_serverAt_70 (c_X3_isSlot (M := b.1) (ow := b.2.1) (dr := b.2.2.1) (tr := b.2.2.2.1) (ch := b.2.2.2.2.1) (fo := b.2.2.2.2.2) s) dX6_serverAt_5 rfl rfl rfl rfl rfl rfl (Nat.le_of_ble_eq_true rfl) ⟨Nat.le_of_ble_eq_true rfl, Nat.le_of_ble_eq_true rfl⟩ ⟨rfl, rfl⟩ ?_
  refine a_if_ne 21 dX6_serverAt_8 (by decide) (fun c8 => ?_) (fun c8 => ?_)
  · have ho := c_X3_owner (l := l) (X := X) (ow := b.2.1) (dr := b.2.2.1) (tr := b.2.2.2.1) (ch := b.2.2.2.2.1) (fo := b.2.2.2.2.2) hb.2 s
    rw [if_pos (bI_1 c8)] at ho
    refine a_aload_n dX6_serverAt_21 rfl ?_
    refine a_get fl_X6_28 dX6_serverAt_22 rfl rfl ?_
    refine a_iload_n dX6_serverAt_25 rfl ?_
    refine a_ViR [9, 10, 11, 12] k_X6_serverAt_75 (ho) dX6_serverAt_26 rfl rfl rfl rfl rfl rfl (Nat.le_of_ble_eq_true rfl) ⟨Nat.le_of_ble_eq_true rfl, Nat.le_of_ble_eq_true rfl⟩ ⟨rfl, rfl⟩ ?_
    refine a_iret rfl dX6_serverAt_29 (by decide) (by decide) ?_
    exact ⟨by simp [bI_1 c8], rfl⟩
  · refine a_throw hl tw_54 tx_X6_73 rfl dX6_serverAt_11 dX6_serverAt_14 dX6_serverAt_15 dX6_serverAt_17 dX6_serverAt_20 ⟨Nat.le_of_ble_eq_true rfl, Nat.le_of_ble_eq_true rfl⟩ (Nat.le_of_ble_eq_true rfl) (Nat.le_of_ble_eq_true rfl) ?_
    exact ⟨by simp [bI_0 c8], rfl⟩
theorem c_X6_serverNamed (hl : l.stackTraces = false) (n : Int32) : aMt l X mX6_serverNamed [0] [.ref 0, .int n] (aPT t b k y) (fun o h' => o = (if gNm n then .inl (some (.int (fFn (cS t).1 n))) else .inr IAE) ∧ h' = aPT t b k y) := by
  refine aMt.of (by decide) rfl (Nat.le_of_ble_eq_true rfl) ?_
  have hck := c_X6_checkName (X := X) hl n
  by_cases hg : gNm n = true
  · rw [if_pos hg] at hck ⊢
    refine a_iload_n dX6_serverNamed_0 rfl ?_
    refine a_Sr [] k_X6_serverNamed_92 (hck) dX6_serverNamed_1 rfl rfl rfl rfl rfl (Nat.le_of_ble_eq_true rfl) ⟨Nat.le_of_ble_eq_true rfl, Nat.le_of_ble_eq_true rfl⟩ ?_
    refine a_aload_n dX6_serverNamed_4 rfl ?_
    refine a_get fl_X6_10 dX6_serverNamed_5 rfl rfl ?_
    refine a_iload_n dX6_serverNamed_8 rfl ?_
    refine a_ViR [1, 2, 3, 4, 5] k_X6_serverNamed_98 (c_X0_find (nm := (cS t).1) (wt := (cS t).2.1) (up := (cS t).2.2.1) (ld := (cS t).2.2.2.1) n) dX6_serverNamed_9 rfl rfl rfl rfl rfl rfl (Nat.le_of_ble_eq_true rfl) ⟨Nat.le_of_ble_eq_true rfl, Nat.le_of_ble_eq_true rfl⟩ ⟨rfl, rfl⟩ ?_
    refine a_iret rfl dX6_serverNamed_12 (by decide) (by decide) ?_
    exact ⟨rfl, rfl⟩
  · rw [if_neg hg] at hck ⊢
    refine a_iload_n dX6_serverNamed_0 rfl ?_
    refine a_Sx [] k_X6_serverNamed_92 (hck) dX6_serverNamed_1 rfl rfl rfl rfl rfl (Nat.le_of_ble_eq_true rfl) ⟨Nat.le_of_ble_eq_true rfl, Nat.le_of_ble_eq_true rfl⟩ rfl ?_
    exact ⟨rfl, rfl⟩
theorem c_X6_slotsOf (hl : l.stackTraces = false) (hb : bOk b) (s : Int32) : aMt l X mX6_slotsOf [0] [.ref 0, .int s] (aPT t b k y) (fun o h' => o = (if fHs (cS t).1 s then .inl (some (.int (sOb b.2.1 b.1 s))) else .inr IAE) ∧ h' = aPT t b k y) := by
  refine aMt.of (by decide) rfl (Nat.le_of_ble_eq_true rfl) ?_
  have hck := c_X6_checkServer (X := X) (t := t) (b := b) (k := k) (y := y) hl s
  by_cases hg : fHs (cS t).1 s = true
  · rw [if_pos hg] at hck ⊢
    refine a_aload_n dX6_slotsOf_0 rfl ?_
    refine a_iload_n dX6_slotsOf_1 rfl ?_
    refine a_Vr is55 k_X6_slotsOf_123 (hck) dX6_slotsOf_2 rfl rfl rfl rfl rfl rfl (Nat.le_of_ble_eq_true rfl) ⟨Nat.le_of_ble_eq_true rfl, Nat.le_of_ble_eq_true rfl⟩ ?_
    refine a_aload_n dX6_slotsOf_5 rfl ?_
    refine a_get fl_X6_28 dX6_slotsOf_6 rfl rfl ?_
    refine a_iload_n dX6_slotsOf_9 rfl ?_
    refine a_ViR [9, 10, 11, 12] k_X6_slotsOf_89 (c_X3_ownedBy (ow := b.2.1) (dr := b.2.2.1) (tr := b.2.2.2.1) (ch := b.2.2.2.2.1) (fo := b.2.2.2.2.2) hb.2 s) dX6_slotsOf_10 rfl rfl rfl rfl rfl rfl (Nat.le_of_ble_eq_true rfl) ⟨Nat.le_of_ble_eq_true rfl, Nat.le_of_ble_eq_true rfl⟩ ⟨rfl, rfl⟩ ?_
    refine a_iret rfl dX6_slotsOf_13 (by decide) (by decide) ?_
    exact ⟨rfl, rfl⟩
  · rw [if_neg hg] at hck ⊢
    refine a_aload_n dX6_slotsOf_0 rfl ?_
    refine a_iload_n dX6_slotsOf_1 rfl ?_
    refine a_Vx is55 k_X6_slotsOf_123 (hck) dX6_slotsOf_2 rfl rfl rfl rfl rfl rfl (Nat.le_of_ble_eq_true rfl) ⟨Nat.le_of_ble_eq_true rfl, Nat.le_of_ble_eq_true rfl⟩ rfl ?_
    exact ⟨rfl, rfl⟩
theorem c_X6_loadOf (hl : l.stackTraces = false) (s : Int32) : aMt l X mX6_loadOf [0] [.ref 0, .int s] (aPT t b k y) (fun o h' => o = (if fHs (cS t).1 s then .inl (some (.long (t.2.2.2.1 s.toNatClampNeg))) else .inr IAE) ∧ h' = aPT t b k y) := by
  refine aMt.of (by decide) rfl (Nat.le_of_ble_eq_true rfl) ?_
  have hck := c_X6_checkServer (X := X) (t := t) (b := b) (k := k) (y := y) hl s
  by_cases hg : fHs (cS t).1 s = true
  · rw [if_pos hg] at hck ⊢
    have hld := c_X0_load (l := l) (X := X) (nm := (cS t).1) (wt := (cS t).2.1) (up := (cS t).2.2.1) (ld := (cS t).2.2.2.1) s
    rw [if_pos hg] at hld
    refine a_aload_n dX6_loadOf_0 rfl ?_
    refine a_iload_n dX6_loadOf_1 rfl ?_
    refine a_Vr is55 k_X6_loadOf_123 (hck) dX6_loadOf_2 rfl rfl rfl rfl rfl rfl (Nat.le_of_ble_eq_true rfl) ⟨Nat.le_of_ble_eq_true rfl, Nat.le_of_ble_eq_true rfl⟩ ?_
    refine a_aload_n dX6_loadOf_5 rfl ?_
    refine a_get fl_X6_10 dX6_loadOf_6 rfl rfl ?_
    refine a_iload_n dX6_loadOf_9 rfl ?_
    refine a_VlR [1, 2, 3, 4, 5] k_X6_loadOf_126 (hld) dX6_loadOf_10 rfl rfl rfl rfl rfl rfl (Nat.le_of_ble_eq_true rfl) ⟨Nat.le_of_ble_eq_true rfl, Nat.le_of_ble_eq_true rfl⟩ ⟨rfl, rfl⟩ ?_
    refine a_lret rfl dX6_loadOf_13 (by decide) (by decide) ?_
    exact ⟨rfl, rfl⟩
  · rw [if_neg hg] at hck ⊢
    refine a_aload_n dX6_loadOf_0 rfl ?_
    refine a_iload_n dX6_loadOf_1 rfl ?_
    refine a_Vx is55 k_X6_loadOf_123 (hck) dX6_loadOf_2 rfl rfl rfl rfl rfl rfl (Nat.le_of_ble_eq_true rfl) ⟨Nat.le_of_ble_eq_true rfl, Nat.le_of_ble_eq_true rfl⟩ rfl ?_
    exact ⟨rfl, rfl⟩
theorem c_X6_preference (hl : l.stackTraces = false) (ht : fOk t) (hb : bOk b) (s j : Int32) : aMt l X mX6_preference [0] [.ref 0, .int s, .int j] (aPT t b k y) (fun o h' => o = (if fHs (cS t).1 s && sSl b.1 j then .inl (some (.int (nI (pPf b.1 (t.1 s.toNatClampNeg) j.toNatClampNeg)))) else .inr IAE) ∧ h' = aPT t b k y) := by
  refine aMt.of (by decide) rfl (Nat.le_of_ble_eq_true rfl) ?_
  have hck := c_X6_checkServer (X := X) (t := t) (b := b) (k := k) (y := y) hl s
  by_cases hg : fHs (cS t).1 s = true
  · rw [if_pos hg] at hck
    have hnm := c_X0_name (l := l) (X := X) (nm := (cS t).1) (wt := (cS t).2.1) (up := (cS t).2.2.1) (ld := (cS t).2.2.2.1) s
    rw [if_pos hg] at hnm
    refine a_aload_n dX6_preference_0 rfl ?_
    refine a_iload_n dX6_preference_1 rfl ?_
    refine a_Vr is55 k_X6_preference_123 (hck) dX6_preference_2 rfl rfl rfl rfl rfl rfl (Nat.le_of_ble_eq_true rfl) ⟨Nat.le_of_ble_eq_true rfl, Nat.le_of_ble_eq_true rfl⟩ ?_
    refine a_aload_n dX6_preference_5 rfl ?_
    refine a_get fl_X6_28 dX6_preference_6 rfl rfl ?_
    refine a_iload_n dX6_preference_9 rfl ?_
    refine a_ViR [9, 10, 11, 12] k_X6_preference_70 (c_X3_isSlot (M := b.1) (ow := b.2.1) (dr := b.2.2.1) (tr := b.2.2.2.1) (ch := b.2.2.2.2.1) (fo := b.2.2.2.2.2) j) dX6_preference_10 rfl rfl rfl rfl rfl rfl (Nat.le_of_ble_eq_true rfl) ⟨Nat.le_of_ble_eq_true rfl, Nat.le_of_ble_eq_true rfl⟩ ⟨rfl, rfl⟩ ?_
    refine a_if_ne 26 dX6_preference_13 (by decide) (fun c13 => ?_) (fun c13 => ?_)
    · have hj := bI_1 c13
      obtain ⟨jj, hjj, rfl⟩ := vp_in_of (sSl_in hb.2 hj) (by decide)
      obtain ⟨i, hi, rfl, -⟩ := fHs_N ht.1 hg
      have hA := ht.1 i hi
      have hb1 := hb.1
      rw [cl10 hi] at hnm ⊢
      refine a_aload_n dX6_preference_26 rfl ?_
      refine a_get fl_X6_28 dX6_preference_27 rfl rfl ?_
      refine a_aload_n dX6_preference_30 rfl ?_
      refine a_get fl_X6_10 dX6_preference_31 rfl rfl ?_
      refine a_iload_n dX6_preference_34 rfl ?_
      refine a_ViR [1, 2, 3, 4, 5] k_X6_preference_153 (hnm) dX6_preference_35 rfl rfl rfl rfl rfl rfl (Nat.le_of_ble_eq_true rfl) ⟨Nat.le_of_ble_eq_true rfl, Nat.le_of_ble_eq_true rfl⟩ ⟨rfl, rfl⟩ ?_
      refine a_iload_n dX6_preference_38 rfl ?_
      refine a_ViR [9, 10, 11, 12] k_X6_preference_156 (c_X3_preferredSlot (ow := b.2.1) (dr := b.2.2.1) (tr := b.2.2.2.1) (ch := b.2.2.2.2.1) (fo := b.2.2.2.2.2) (by omega) hb.2 (t.1 i) jj hA (by omega)) dX6_preference_39 rfl rfl rfl rfl rfl rfl (Nat.le_of_ble_eq_true rfl) ⟨Nat.le_of_ble_eq_true rfl, Nat.le_of_ble_eq_true rfl⟩ ⟨rfl, rfl⟩ ?_
      refine a_iret rfl dX6_preference_42 (by decide) (by decide) ?_
      exact ⟨by simp [hg, hj, cl61 hjj], rfl⟩
    · refine a_throw hl tw_54 tx_X6_151 rfl dX6_preference_16 dX6_preference_19 dX6_preference_20 dX6_preference_22 dX6_preference_25 ⟨Nat.le_of_ble_eq_true rfl, Nat.le_of_ble_eq_true rfl⟩ (Nat.le_of_ble_eq_true rfl) (Nat.le_of_ble_eq_true rfl) ?_
      exact ⟨by simp [bI_0 c13], rfl⟩
  · rw [if_neg hg] at hck
    refine a_aload_n dX6_preference_0 rfl ?_
    refine a_iload_n dX6_preference_1 rfl ?_
    refine a_Vx is55 k_X6_preference_123 (hck) dX6_preference_2 rfl rfl rfl rfl rfl rfl (Nat.le_of_ble_eq_true rfl) ⟨Nat.le_of_ble_eq_true rfl, Nat.le_of_ble_eq_true rfl⟩ rfl ?_
    exact ⟨by simp [hg], rfl⟩
theorem c_X6_removalDisruption (hl : l.stackTraces = false) (ht : fOk t) (hb : bOk b) (s : Int32) : aMt l X mX6_removalDisruption [0] [.ref 0, .int s] (aPT t b k y) (fun o h' => o = (if fHs (cS t).1 s then .inl (some (.int (sCc b.2.1 (nDr t b s).1 b.1))) else .inr IAE) ∧ h' = aPT t (if fHs (cS t).1 s then bWo t b s else b) k y) := by
  refine aMt.of (by decide) rfl (Nat.le_of_ble_eq_true rfl) ?_
  have hck := c_X6_checkServer (X := X) (t := t) (b := b) (k := k) (y := y) hl s
  by_cases hg : fHs (cS t).1 s = true
  · rw [if_pos hg] at hck
    rw [if_pos hg, if_pos hg]
    refine a_aload_n dX6_removalDisruption_0 rfl ?_
    refine a_iload_n dX6_removalDisruption_1 rfl ?_
    refine a_Vr is55 k_X6_removalDisruption_123 (hck) dX6_removalDisruption_2 rfl rfl rfl rfl rfl rfl (Nat.le_of_ble_eq_true rfl) ⟨Nat.le_of_ble_eq_true rfl, Nat.le_of_ble_eq_true rfl⟩ ?_
    refine a_aload_n dX6_removalDisruption_5 rfl ?_
    refine a_get fl_X6_28 dX6_removalDisruption_6 rfl rfl ?_
    refine a_aload_n dX6_removalDisruption_9 rfl ?_
    refine a_get fl_X6_10 dX6_removalDisruption_10 rfl rfl ?_
    refine a_iload_n dX6_removalDisruption_13 rfl ?_
    refine a_ViW [9, 10, 11, 12, 1, 2, 3, 4, 5] (aPT t (bWo t b s) k y) k_X6_removalDisruption_160 (n_changedWithout ht hb s) dX6_removalDisruption_14 rfl rfl rfl rfl rfl rfl (Nat.le_of_ble_eq_true rfl) ⟨Nat.le_of_ble_eq_true rfl, Nat.le_of_ble_eq_true rfl⟩ ⟨rfl, rfl⟩ (Nat.le_of_ble_eq_true rfl) rfl ?_
    refine a_iret rfl dX6_removalDisruption_17 (by decide) (by decide) ?_
    exact ⟨rfl, rfl⟩
  · rw [if_neg hg] at hck
    rw [if_neg hg, if_neg hg]
    refine a_aload_n dX6_removalDisruption_0 rfl ?_
    refine a_iload_n dX6_removalDisruption_1 rfl ?_
    refine a_Vx is55 k_X6_removalDisruption_123 (hck) dX6_removalDisruption_2 rfl rfl rfl rfl rfl rfl (Nat.le_of_ble_eq_true rfl) ⟨Nat.le_of_ble_eq_true rfl, Nat.le_of_ble_eq_true rfl⟩ rfl ?_
    exact ⟨rfl, rfl⟩
theorem c_X6_rankedServer (hl : l.stackTraces = false) (p : Int32) : aMt l X mX6_rankedServer [0] [.ref 0, .int p] (aPT t b k y) (fun o h' => o = (if decide (¬ p < 0) && decide (p < fUc (cS t).1 (cS t).2.2.1) then .inl (some (.int (fRd (cS t).1 (cS t).2.1 (cS t).2.2.1 (cS t).2.2.2.1 p))) else .inr IOE) ∧ h' = aPT t b k y) := by
  refine aMt.of (by decide) rfl (Nat.le_of_ble_eq_true rfl) ?_
  refine a_iload_n dX6_rankedServer_0 rfl ?_
  refine a_if_lt 15 dX6_rankedServer_1 (by decide) (fun c1 => ?_) (fun c1 => ?_)
  · refine a_throw hl tw_186 tx_X6_184 rfl dX6_rankedServer_15 dX6_rankedServer_18 dX6_rankedServer_19 dX6_rankedServer_21 dX6_rankedServer_24 ⟨Nat.le_of_ble_eq_true rfl, Nat.le_of_ble_eq_true rfl⟩ (Nat.le_of_ble_eq_true rfl) (Nat.le_of_ble_eq_true rfl) ?_
    exact ⟨by simp [c1], rfl⟩
  · refine a_iload_n dX6_rankedServer_4 rfl ?_
    refine a_aload_n dX6_rankedServer_5 rfl ?_
    refine a_get fl_X6_10 dX6_rankedServer_6 rfl rfl ?_
    refine a_ViR [1, 2, 3, 4, 5] k_X6_rankedServer_179 (c_X0_upCount (nm := (cS t).1) (wt := (cS t).2.1) (up := (cS t).2.2.1) (ld := (cS t).2.2.2.1)) dX6_rankedServer_9 rfl rfl rfl rfl rfl rfl (Nat.le_of_ble_eq_true rfl) ⟨Nat.le_of_ble_eq_true rfl, Nat.le_of_ble_eq_true rfl⟩ ⟨rfl, rfl⟩ ?_
    refine a_icmp_lt 25 dX6_rankedServer_12 (by decide) (fun c12 => ?_) (fun c12 => ?_)
    · refine a_aload_n dX6_rankedServer_25 rfl ?_
      refine a_get fl_X6_10 dX6_rankedServer_26 rfl rfl ?_
      refine a_iload_n dX6_rankedServer_29 rfl ?_
      refine a_ViR [1, 2, 3, 4, 5] k_X6_rankedServer_187 (c_X0_ranked (nm := (cS t).1) (wt := (cS t).2.1) (up := (cS t).2.2.1) (ld := (cS t).2.2.2.1) p) dX6_rankedServer_30 rfl rfl rfl rfl rfl rfl (Nat.le_of_ble_eq_true rfl) ⟨Nat.le_of_ble_eq_true rfl, Nat.le_of_ble_eq_true rfl⟩ ⟨rfl, rfl⟩ ?_
      refine a_iret rfl dX6_rankedServer_33 (by decide) (by decide) ?_
      exact ⟨by simp [c1, c12], rfl⟩
    · refine a_throw hl tw_186 tx_X6_184 rfl dX6_rankedServer_15 dX6_rankedServer_18 dX6_rankedServer_19 dX6_rankedServer_21 dX6_rankedServer_24 ⟨Nat.le_of_ble_eq_true rfl, Nat.le_of_ble_eq_true rfl⟩ (Nat.le_of_ble_eq_true rfl) (Nat.le_of_ble_eq_true rfl) ?_
      exact ⟨by simp [c12], rfl⟩
theorem c_X6_hotKey (hl : l.stackTraces = false) (e : Int32) : aMt l X mX6_hotKey [0] [.ref 0, .int e] (aPT t b k y) (fun o h' => o = (if tHs k.2 e then .inl (some (.int (k.1.1 e.toNatClampNeg))) else .inr IOE) ∧ h' = aPT t b k y) := by
  refine aMt.of (by decide) rfl (Nat.le_of_ble_eq_true rfl) ?_
  have hck := c_X6_checkEntry (X := X) (t := t) (b := b) (k := k) (y := y) hl e
  by_cases hg : tHs k.2 e = true
  · rw [if_pos hg] at hck ⊢
    have hld := c_X5_key (l := l) (X := X) (tk := k.1.1) (tc := k.1.2.1) (te := k.1.2.2) (m := k.2) e
    rw [if_pos hg] at hld
    refine a_aload_n dX6_hotKey_0 rfl ?_
    refine a_iload_n dX6_hotKey_1 rfl ?_
    refine a_Vr is55 k_X6_hotKey_208 (hck) dX6_hotKey_2 rfl rfl rfl rfl rfl rfl (Nat.le_of_ble_eq_true rfl) ⟨Nat.le_of_ble_eq_true rfl, Nat.le_of_ble_eq_true rfl⟩ ?_
    refine a_aload_n dX6_hotKey_5 rfl ?_
    refine a_get fl_X6_35 dX6_hotKey_6 rfl rfl ?_
    refine a_iload_n dX6_hotKey_9 rfl ?_
    refine a_ViR [13, 14, 15, 16] k_X6_hotKey_205 (hld) dX6_hotKey_10 rfl rfl rfl rfl rfl rfl (Nat.le_of_ble_eq_true rfl) ⟨Nat.le_of_ble_eq_true rfl, Nat.le_of_ble_eq_true rfl⟩ ⟨rfl, rfl⟩ ?_
    refine a_iret rfl dX6_hotKey_13 (by decide) (by decide) ?_
    exact ⟨rfl, rfl⟩
  · rw [if_neg hg] at hck ⊢
    refine a_aload_n dX6_hotKey_0 rfl ?_
    refine a_iload_n dX6_hotKey_1 rfl ?_
    refine a_Vx is55 k_X6_hotKey_208 (hck) dX6_hotKey_2 rfl rfl rfl rfl rfl rfl (Nat.le_of_ble_eq_true rfl) ⟨Nat.le_of_ble_eq_true rfl, Nat.le_of_ble_eq_true rfl⟩ rfl ?_
    exact ⟨rfl, rfl⟩
theorem c_X6_hotCount (hl : l.stackTraces = false) (e : Int32) : aMt l X mX6_hotCount [0] [.ref 0, .int e] (aPT t b k y) (fun o h' => o = (if tHs k.2 e then .inl (some (.long (k.1.2.1 e.toNatClampNeg))) else .inr IOE) ∧ h' = aPT t b k y) := by
  refine aMt.of (by decide) rfl (Nat.le_of_ble_eq_true rfl) ?_
  have hck := c_X6_checkEntry (X := X) (t := t) (b := b) (k := k) (y := y) hl e
  by_cases hg : tHs k.2 e = true
  · rw [if_pos hg] at hck ⊢
    have hld := c_X5_counted (l := l) (X := X) (tk := k.1.1) (tc := k.1.2.1) (te := k.1.2.2) (m := k.2) e
    rw [if_pos hg] at hld
    refine a_aload_n dX6_hotCount_0 rfl ?_
    refine a_iload_n dX6_hotCount_1 rfl ?_
    refine a_Vr is55 k_X6_hotCount_208 (hck) dX6_hotCount_2 rfl rfl rfl rfl rfl rfl (Nat.le_of_ble_eq_true rfl) ⟨Nat.le_of_ble_eq_true rfl, Nat.le_of_ble_eq_true rfl⟩ ?_
    refine a_aload_n dX6_hotCount_5 rfl ?_
    refine a_get fl_X6_35 dX6_hotCount_6 rfl rfl ?_
    refine a_iload_n dX6_hotCount_9 rfl ?_
    refine a_VlR [13, 14, 15, 16] k_X6_hotCount_211 (hld) dX6_hotCount_10 rfl rfl rfl rfl rfl rfl (Nat.le_of_ble_eq_true rfl) ⟨Nat.le_of_ble_eq_true rfl, Nat.le_of_ble_eq_true rfl⟩ ⟨rfl, rfl⟩ ?_
    refine a_lret rfl dX6_hotCount_13 (by decide) (by decide) ?_
    exact ⟨rfl, rfl⟩
  · rw [if_neg hg] at hck ⊢
    refine a_aload_n dX6_hotCount_0 rfl ?_
    refine a_iload_n dX6_hotCount_1 rfl ?_
    refine a_Vx is55 k_X6_hotCount_208 (hck) dX6_hotCount_2 rfl rfl rfl rfl rfl rfl (Nat.le_of_ble_eq_true rfl) ⟨Nat.le_of_ble_eq_true rfl, Nat.le_of_ble_eq_true rfl⟩ rfl ?_
    exact ⟨rfl, rfl⟩
theorem c_X6_hotError (hl : l.stackTraces = false) (e : Int32) : aMt l X mX6_hotError [0] [.ref 0, .int e] (aPT t b k y) (fun o h' => o = (if tHs k.2 e then .inl (some (.long (k.1.2.2 e.toNatClampNeg))) else .inr IOE) ∧ h' = aPT t b k y) := by
  refine aMt.of (by decide) rfl (Nat.le_of_ble_eq_true rfl) ?_
  have hck := c_X6_checkEntry (X := X) (t := t) (b := b) (k := k) (y := y) hl e
  by_cases hg : tHs k.2 e = true
  · rw [if_pos hg] at hck ⊢
    have hld := c_X5_error (l := l) (X := X) (tk := k.1.1) (tc := k.1.2.1) (te := k.1.2.2) (m := k.2) e
    rw [if_pos hg] at hld
    refine a_aload_n dX6_hotError_0 rfl ?_
    refine a_iload_n dX6_hotError_1 rfl ?_
    refine a_Vr is55 k_X6_hotError_208 (hck) dX6_hotError_2 rfl rfl rfl rfl rfl rfl (Nat.le_of_ble_eq_true rfl) ⟨Nat.le_of_ble_eq_true rfl, Nat.le_of_ble_eq_true rfl⟩ ?_
    refine a_aload_n dX6_hotError_5 rfl ?_
    refine a_get fl_X6_35 dX6_hotError_6 rfl rfl ?_
    refine a_iload_n dX6_hotError_9 rfl ?_
    refine a_VlR [13, 14, 15, 16] k_X6_hotError_214 (hld) dX6_hotError_10 rfl rfl rfl rfl rfl rfl (Nat.le_of_ble_eq_true rfl) ⟨Nat.le_of_ble_eq_true rfl, Nat.le_of_ble_eq_true rfl⟩ ⟨rfl, rfl⟩ ?_
    refine a_lret rfl dX6_hotError_13 (by decide) (by decide) ?_
    exact ⟨rfl, rfl⟩
  · rw [if_neg hg] at hck ⊢
    refine a_aload_n dX6_hotError_0 rfl ?_
    refine a_iload_n dX6_hotError_1 rfl ?_
    refine a_Vx is55 k_X6_hotError_208 (hck) dX6_hotError_2 rfl rfl rfl rfl rfl rfl (Nat.le_of_ble_eq_true rfl) ⟨Nat.le_of_ble_eq_true rfl, Nat.le_of_ble_eq_true rfl⟩ rfl ?_
    exact ⟨rfl, rfl⟩
end PT3
