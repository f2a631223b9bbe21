/-! written by wip/whole/pp.py out of wip/whole/src/25.pt4.lean -/
theorem dX6_serverOf_0 : decode cX6_serverOf 0 = .ok (.iload_n 1, 1) := by decide +kernel
theorem dX6_serverOf_1 : decode cX6_serverOf 1 = .ok (.invokestatic 164, 3) := by decide +kernel
theorem dX6_serverOf_4 : decode cX6_serverOf 4 = .ok (.aload_n 0, 1) := by decide +kernel
theorem dX6_serverOf_5 : decode cX6_serverOf 5 = .ok (.iload_n 1, 1) := by decide +kernel
theorem dX6_serverOf_6 : decode cX6_serverOf 6 = .ok (.invokevirtual 167, 3) := by decide +kernel
theorem dX6_serverOf_9 : decode cX6_serverOf 9 = .ok (.ireturn, 1) := by decide +kernel
theorem dX6_request_0 : decode cX6_request 0 = .ok (.iload_n 1, 1) := by decide +kernel
theorem dX6_request_1 : decode cX6_request 1 = .ok (.invokestatic 164, 3) := by decide +kernel
theorem dX6_request_4 : decode cX6_request 4 = .ok (.iload_n 2, 1) := by decide +kernel
theorem dX6_request_5 : decode cX6_request 5 = .ok (.iconst 1, 1) := by decide +kernel
theorem dX6_request_6 : decode cX6_request 6 = .ok (.if_icmp .lt 9, 3) := by decide +kernel
theorem dX6_request_9 : decode cX6_request 9 = .ok (.iload_n 2, 1) := by decide +kernel
theorem dX6_request_10 : decode cX6_request 10 = .ok (.ldc 170, 2) := by decide +kernel
theorem dX6_request_12 : decode cX6_request 12 = .ok (.if_icmp .le 13, 3) := by decide +kernel
theorem dX6_request_15 : decode cX6_request 15 = .ok (.new 50, 3) := by decide +kernel
theorem dX6_request_18 : decode cX6_request 18 = .ok (.dup, 1) := by decide +kernel
theorem dX6_request_19 : decode cX6_request 19 = .ok (.ldc 171, 2) := by decide +kernel
theorem dX6_request_21 : decode cX6_request 21 = .ok (.invokespecial 54, 3) := by decide +kernel
theorem dX6_request_24 : decode cX6_request 24 = .ok (.athrow, 1) := by decide +kernel
theorem dX6_request_25 : decode cX6_request 25 = .ok (.aload_n 0, 1) := by decide +kernel
theorem dX6_request_26 : decode cX6_request 26 = .ok (.iload_n 1, 1) := by decide +kernel
theorem dX6_request_27 : decode cX6_request 27 = .ok (.invokevirtual 167, 3) := by decide +kernel
theorem dX6_request_30 : decode cX6_request 30 = .ok (.istore_n 3, 1) := by decide +kernel
theorem dX6_request_31 : decode cX6_request 31 = .ok (.aload_n 0, 1) := by decide +kernel
theorem dX6_request_32 : decode cX6_request 32 = .ok (.getfield 10, 3) := by decide +kernel
theorem dX6_request_35 : decode cX6_request 35 = .ok (.iload_n 3, 1) := by decide +kernel
theorem dX6_request_36 : decode cX6_request 36 = .ok (.iload_n 2, 1) := by decide +kernel
theorem dX6_request_37 : decode cX6_request 37 = .ok (.invokevirtual 173, 3) := by decide +kernel
theorem dX6_request_40 : decode cX6_request 40 = .ok (.aload_n 0, 1) := by decide +kernel
theorem dX6_request_41 : decode cX6_request 41 = .ok (.getfield 35, 3) := by decide +kernel
theorem dX6_request_44 : decode cX6_request 44 = .ok (.iload_n 1, 1) := by decide +kernel
theorem dX6_request_45 : decode cX6_request 45 = .ok (.iload_n 2, 1) := by decide +kernel
theorem dX6_request_46 : decode cX6_request 46 = .ok (.invokevirtual 176, 3) := by decide +kernel
theorem dX6_request_49 : decode cX6_request 49 = .ok (.iload_n 3, 1) := by decide +kernel
theorem dX6_request_50 : decode cX6_request 50 = .ok (.ireturn, 1) := by decide +kernel
theorem dX6_pin_0 : decode cX6_pin 0 = .ok (.iload_n 1, 1) := by decide +kernel
theorem dX6_pin_1 : decode cX6_pin 1 = .ok (.invokestatic 164, 3) := by decide +kernel
theorem dX6_pin_4 : decode cX6_pin 4 = .ok (.aload_n 0, 1) := by decide +kernel
theorem dX6_pin_5 : decode cX6_pin 5 = .ok (.iload_n 2, 1) := by decide +kernel
theorem dX6_pin_6 : decode cX6_pin 6 = .ok (.invokevirtual 123, 3) := by decide +kernel
theorem dX6_pin_9 : decode cX6_pin 9 = .ok (.aload_n 0, 1) := by decide +kernel
theorem dX6_pin_10 : decode cX6_pin 10 = .ok (.iload_n 1, 1) := by decide +kernel
theorem dX6_pin_11 : decode cX6_pin 11 = .ok (.invokevirtual 190, 3) := by decide +kernel
theorem dX6_pin_14 : decode cX6_pin 14 = .ok (.aload_n 0, 1) := by decide +kernel
theorem dX6_pin_15 : decode cX6_pin 15 = .ok (.getfield 19, 3) := by decide +kernel
theorem dX6_pin_18 : decode cX6_pin 18 = .ok (.iload_n 1, 1) := by decide +kernel
theorem dX6_pin_19 : decode cX6_pin 19 = .ok (.iload_n 2, 1) := by decide +kernel
theorem dX6_pin_20 : decode cX6_pin 20 = .ok (.invokevirtual 193, 3) := by decide +kernel
theorem dX6_pin_23 : decode cX6_pin 23 = .ok (.aload_n 0, 1) := by decide +kernel
theorem dX6_pin_24 : decode cX6_pin 24 = .ok (.getfield 19, 3) := by decide +kernel
theorem dX6_pin_27 : decode cX6_pin 27 = .ok (.invokevirtual 195, 3) := by decide +kernel
theorem dX6_pin_30 : decode cX6_pin 30 = .ok (.ireturn, 1) := by decide +kernel
theorem dX6_unpin_0 : decode cX6_unpin 0 = .ok (.iload_n 1, 1) := by decide +kernel
theorem dX6_unpin_1 : decode cX6_unpin 1 = .ok (.invokestatic 164, 3) := by decide +kernel
theorem dX6_unpin_4 : decode cX6_unpin 4 = .ok (.aload_n 0, 1) := by decide +kernel
theorem dX6_unpin_5 : decode cX6_unpin 5 = .ok (.getfield 19, 3) := by decide +kernel
theorem dX6_unpin_8 : decode cX6_unpin 8 = .ok (.iload_n 1, 1) := by decide +kernel
theorem dX6_unpin_9 : decode cX6_unpin 9 = .ok (.invokevirtual 196, 3) := by decide +kernel
theorem dX6_unpin_12 : decode cX6_unpin 12 = .ok (.istore_n 2, 1) := by decide +kernel
theorem dX6_unpin_13 : decode cX6_unpin 13 = .ok (.aload_n 0, 1) := by decide +kernel
theorem dX6_unpin_14 : decode cX6_unpin 14 = .ok (.getfield 19, 3) := by decide +kernel
theorem dX6_unpin_17 : decode cX6_unpin 17 = .ok (.iload_n 1, 1) := by decide +kernel
theorem dX6_unpin_18 : decode cX6_unpin 18 = .ok (.invokevirtual 199, 3) := by decide +kernel
theorem dX6_unpin_21 : decode cX6_unpin 21 = .ok (.iload_n 2, 1) := by decide +kernel
theorem dX6_unpin_22 : decode cX6_unpin 22 = .ok (.ireturn, 1) := by decide +kernel
theorem dX6_pinHottest_0 : decode cX6_pinHottest 0 = .ok (.aload_n 0, 1) := by decide +kernel
theorem dX6_pinHottest_1 : decode cX6_pinHottest 1 = .ok (.getfield 35, 3) := by decide +kernel
theorem dX6_pinHottest_4 : decode cX6_pinHottest 4 = .ok (.invokevirtual 200, 3) := by decide +kernel
theorem dX6_pinHottest_7 : decode cX6_pinHottest 7 = .ok (.ifCond .ne 13, 3) := by decide +kernel
theorem dX6_pinHottest_10 : decode cX6_pinHottest 10 = .ok (.new 101, 3) := by decide +kernel
theorem dX6_pinHottest_13 : decode cX6_pinHottest 13 = .ok (.dup, 1) := by decide +kernel
theorem dX6_pinHottest_14 : decode cX6_pinHottest 14 = .ok (.ldc 201, 2) := by decide +kernel
theorem dX6_pinHottest_16 : decode cX6_pinHottest 16 = .ok (.invokespecial 105, 3) := by decide +kernel
theorem dX6_pinHottest_19 : decode cX6_pinHottest 19 = .ok (.athrow, 1) := by decide +kernel
theorem dX6_pinHottest_20 : decode cX6_pinHottest 20 = .ok (.aload_n 0, 1) := by decide +kernel
theorem dX6_pinHottest_21 : decode cX6_pinHottest 21 = .ok (.getfield 10, 3) := by decide +kernel
theorem dX6_pinHottest_24 : decode cX6_pinHottest 24 = .ok (.invokevirtual 179, 3) := by decide +kernel
theorem dX6_pinHottest_27 : decode cX6_pinHottest 27 = .ok (.istore_n 1, 1) := by decide +kernel
theorem dX6_pinHottest_28 : decode cX6_pinHottest 28 = .ok (.iload_n 1, 1) := by decide +kernel
theorem dX6_pinHottest_29 : decode cX6_pinHottest 29 = .ok (.ifCond .ne 13, 3) := by decide +kernel
theorem dX6_pinHottest_32 : decode cX6_pinHottest 32 = .ok (.new 101, 3) := by decide +kernel
theorem dX6_pinHottest_35 : decode cX6_pinHottest 35 = .ok (.dup, 1) := by decide +kernel
theorem dX6_pinHottest_36 : decode cX6_pinHottest 36 = .ok (.ldc 203, 2) := by decide +kernel
theorem dX6_pinHottest_38 : decode cX6_pinHottest 38 = .ok (.invokespecial 105, 3) := by decide +kernel
theorem dX6_pinHottest_41 : decode cX6_pinHottest 41 = .ok (.athrow, 1) := by decide +kernel
theorem dX6_pinHottest_42 : decode cX6_pinHottest 42 = .ok (.aload_n 0, 1) := by decide +kernel
theorem dX6_pinHottest_43 : decode cX6_pinHottest 43 = .ok (.getfield 35, 3) := by decide +kernel
theorem dX6_pinHottest_46 : decode cX6_pinHottest 46 = .ok (.iconst 0, 1) := by decide +kernel
theorem dX6_pinHottest_47 : decode cX6_pinHottest 47 = .ok (.invokevirtual 205, 3) := by decide +kernel
theorem dX6_pinHottest_50 : decode cX6_pinHottest 50 = .ok (.istore_n 2, 1) := by decide +kernel
theorem dX6_pinHottest_51 : decode cX6_pinHottest 51 = .ok (.aload_n 0, 1) := by decide +kernel
theorem dX6_pinHottest_52 : decode cX6_pinHottest 52 = .ok (.iload_n 2, 1) := by decide +kernel
theorem dX6_pinHottest_53 : decode cX6_pinHottest 53 = .ok (.invokevirtual 190, 3) := by decide +kernel
theorem dX6_pinHottest_56 : decode cX6_pinHottest 56 = .ok (.aload_n 0, 1) := by decide +kernel
theorem dX6_pinHottest_57 : decode cX6_pinHottest 57 = .ok (.getfield 10, 3) := by decide +kernel
theorem dX6_pinHottest_60 : decode cX6_pinHottest 60 = .ok (.iload_n 1, 1) := by decide +kernel
theorem dX6_pinHottest_61 : decode cX6_pinHottest 61 = .ok (.iconst 1, 1) := by decide +kernel
theorem dX6_pinHottest_62 : decode cX6_pinHottest 62 = .ok (.isub, 1) := by decide +kernel
theorem dX6_pinHottest_63 : decode cX6_pinHottest 63 = .ok (.invokevirtual 187, 3) := by decide +kernel
theorem dX6_pinHottest_66 : decode cX6_pinHottest 66 = .ok (.istore_n 3, 1) := by decide +kernel
theorem dX6_pinHottest_67 : decode cX6_pinHottest 67 = .ok (.aload_n 0, 1) := by decide +kernel
theorem dX6_pinHottest_68 : decode cX6_pinHottest 68 = .ok (.getfield 19, 3) := by decide +kernel
theorem dX6_pinHottest_71 : decode cX6_pinHottest 71 = .ok (.iload_n 2, 1) := by decide +kernel
theorem dX6_pinHottest_72 : decode cX6_pinHottest 72 = .ok (.iload_n 3, 1) := by decide +kernel
theorem dX6_pinHottest_73 : decode cX6_pinHottest 73 = .ok (.invokevirtual 193, 3) := by decide +kernel
theorem dX6_pinHottest_76 : decode cX6_pinHottest 76 = .ok (.iload_n 3, 1) := by decide +kernel
theorem dX6_pinHottest_77 : decode cX6_pinHottest 77 = .ok (.ireturn, 1) := by decide +kernel
theorem dX6_lookUp_0 : decode cX6_lookUp 0 = .ok (.aload_n 0, 1) := by decide +kernel
theorem dX6_lookUp_1 : decode cX6_lookUp 1 = .ok (.getfield 19, 3) := by decide +kernel
theorem dX6_lookUp_4 : decode cX6_lookUp 4 = .ok (.iload_n 1, 1) := by decide +kernel
theorem dX6_lookUp_5 : decode cX6_lookUp 5 = .ok (.invokevirtual 196, 3) := by decide +kernel
theorem dX6_lookUp_8 : decode cX6_lookUp 8 = .ok (.istore_n 2, 1) := by decide +kernel
theorem dX6_lookUp_9 : decode cX6_lookUp 9 = .ok (.aload_n 0, 1) := by decide +kernel
theorem dX6_lookUp_10 : decode cX6_lookUp 10 = .ok (.getfield 10, 3) := by decide +kernel
theorem dX6_lookUp_13 : decode cX6_lookUp 13 = .ok (.iload_n 2, 1) := by decide +kernel
theorem dX6_lookUp_14 : decode cX6_lookUp 14 = .ok (.invokevirtual 143, 3) := by decide +kernel
theorem dX6_lookUp_17 : decode cX6_lookUp 17 = .ok (.ifCond .eq 7, 3) := by decide +kernel
theorem dX6_lookUp_20 : decode cX6_lookUp 20 = .ok (.iload_n 2, 1) := by decide +kernel
theorem dX6_lookUp_21 : decode cX6_lookUp 21 = .ok (.goto 18, 3) := by decide +kernel
theorem dX6_lookUp_24 : decode cX6_lookUp 24 = .ok (.aload_n 0, 1) := by decide +kernel
theorem dX6_lookUp_25 : decode cX6_lookUp 25 = .ok (.getfield 28, 3) := by decide +kernel
theorem dX6_lookUp_28 : decode cX6_lookUp 28 = .ok (.aload_n 0, 1) := by decide +kernel
theorem dX6_lookUp_29 : decode cX6_lookUp 29 = .ok (.getfield 28, 3) := by decide +kernel
theorem dX6_lookUp_32 : decode cX6_lookUp 32 = .ok (.iload_n 1, 1) := by decide +kernel
theorem dX6_lookUp_33 : decode cX6_lookUp 33 = .ok (.invokevirtual 247, 3) := by decide +kernel
theorem dX6_lookUp_36 : decode cX6_lookUp 36 = .ok (.invokevirtual 75, 3) := by decide +kernel
theorem dX6_lookUp_39 : decode cX6_lookUp 39 = .ok (.ireturn, 1) := by decide +kernel
theorem k_X6_lookUp_196 : aKV mX6_lookUp mX2_server 196 1 2 := ⟨cb_X2_server, rfl, ml_X6_196, iv_X2_server, sl_X2_server, ⟨_, _, rfl⟩, ⟨Nat.le_of_ble_eq_true rfl, Nat.le_of_ble_eq_true rfl⟩⟩
theorem k_X6_lookUp_143 : aKV mX6_lookUp mX0_isUp 143 1 0 := ⟨cb_X0_isUp, rfl, ml_X6_143, iv_X0_isUp, sl_X0_isUp, ⟨_, _, rfl⟩, ⟨Nat.le_of_ble_eq_true rfl, Nat.le_of_ble_eq_true rfl⟩⟩
theorem k_X6_lookUp_247 : aKV mX6_lookUp mX3_slotOfKey 247 1 3 := ⟨cb_X3_slotOfKey, rfl, ml_X6_247, iv_X3_slotOfKey, sl_X3_slotOfKey, ⟨_, _, rfl⟩, ⟨Nat.le_of_ble_eq_true rfl, Nat.le_of_ble_eq_true rfl⟩⟩
theorem k_X6_lookUp_75 : aKV mX6_lookUp mX3_owner 75 1 3 := ⟨cb_X3_owner, rfl, ml_X6_75, iv_X3_owner, sl_X3_owner, ⟨_, _, rfl⟩, ⟨Nat.le_of_ble_eq_true rfl, Nat.le_of_ble_eq_true rfl⟩⟩
theorem k_X6_serverOf_164 : aKS mX6_serverOf mX6_checkKey 164 1 := ⟨cb_X6_checkKey, rfl, ml_X6_164, st_X6_checkKey, ⟨Nat.le_of_ble_eq_true rfl, Nat.le_of_ble_eq_true rfl⟩⟩
theorem k_X6_serverOf_167 : aKV mX6_serverOf mX6_lookUp 167 1 6 := ⟨cb_X6_lookUp, rfl, ml_X6_167, iv_X6_lookUp, sl_X6_lookUp, ⟨_, _, rfl⟩, ⟨Nat.le_of_ble_eq_true rfl, Nat.le_of_ble_eq_true rfl⟩⟩
theorem k_X6_request_164 : aKS mX6_request mX6_checkKey 164 1 := ⟨cb_X6_checkKey, rfl, ml_X6_164, st_X6_checkKey, ⟨Nat.le_of_ble_eq_true rfl, Nat.le_of_ble_eq_true rfl⟩⟩
theorem k_X6_request_167 : aKV mX6_request mX6_lookUp 167 1 6 := ⟨cb_X6_lookUp, rfl, ml_X6_167, iv_X6_lookUp, sl_X6_lookUp, ⟨_, _, rfl⟩, ⟨Nat.le_of_ble_eq_true rfl, Nat.le_of_ble_eq_true rfl⟩⟩
theorem k_X6_request_173 : aKV mX6_request mX0_addLoad 173 2 0 := ⟨cb_X0_addLoad, rfl, ml_X6_173, iv_X0_addLoad, sl_X0_addLoad, ⟨_, _, rfl⟩, ⟨Nat.le_of_ble_eq_true rfl, Nat.le_of_ble_eq_true rfl⟩⟩
theorem k_X6_request_176 : aKV mX6_request mX5_count 176 2 5 := ⟨cb_X5_count, rfl, ml_X6_176, iv_X5_count, sl_X5_count, ⟨_, _, rfl⟩, ⟨Nat.le_of_ble_eq_true rfl, Nat.le_of_ble_eq_true rfl⟩⟩
theorem k_X6_pin_164 : aKS mX6_pin mX6_checkKey 164 1 := ⟨cb_X6_checkKey, rfl, ml_X6_164, st_X6_checkKey, ⟨Nat.le_of_ble_eq_true rfl, Nat.le_of_ble_eq_true rfl⟩⟩
theorem k_X6_pin_123 : aKV mX6_pin mX6_checkServer 123 1 6 := ⟨cb_X6_checkServer, rfl, ml_X6_123, iv_X6_checkServer, sl_X6_checkServer, ⟨_, _, rfl⟩, ⟨Nat.le_of_ble_eq_true rfl, Nat.le_of_ble_eq_true rfl⟩⟩
theorem k_X6_pin_190 : aKV mX6_pin mX6_checkRoomForPin 190 1 6 := ⟨cb_X6_checkRoomForPin, rfl, ml_X6_190, iv_X6_checkRoomForPin, sl_X6_checkRoomForPin, ⟨_, _, rfl⟩, ⟨Nat.le_of_ble_eq_true rfl, Nat.le_of_ble_eq_true rfl⟩⟩
theorem k_X6_pin_193 : aKV mX6_pin mX2_put 193 2 2 := ⟨cb_X2_put, rfl, ml_X6_193, iv_X2_put, sl_X2_put, ⟨_, _, rfl⟩, ⟨Nat.le_of_ble_eq_true rfl, Nat.le_of_ble_eq_true rfl⟩⟩
theorem k_X6_pin_195 : aKV mX6_pin mX2_size 195 0 2 := ⟨cb_X2_size, rfl, ml_X6_195, iv_X2_size, sl_X2_size, ⟨_, _, rfl⟩, ⟨Nat.le_of_ble_eq_true rfl, Nat.le_of_ble_eq_true rfl⟩⟩
theorem k_X6_unpin_164 : aKS mX6_unpin mX6_checkKey 164 1 := ⟨cb_X6_checkKey, rfl, ml_X6_164, st_X6_checkKey, ⟨Nat.le_of_ble_eq_true rfl, Nat.le_of_ble_eq_true rfl⟩⟩
theorem k_X6_unpin_196 : aKV mX6_unpin mX2_server 196 1 2 := ⟨cb_X2_server, rfl, ml_X6_196, iv_X2_server, sl_X2_server, ⟨_, _, rfl⟩, ⟨Nat.le_of_ble_eq_true rfl, Nat.le_of_ble_eq_true rfl⟩⟩
theorem k_X6_unpin_199 : aKV mX6_unpin mX2_drop 199 1 2 := ⟨cb_X2_drop, rfl, ml_X6_199, iv_X2_drop, sl_X2_drop, ⟨_, _, rfl⟩, ⟨Nat.le_of_ble_eq_true rfl, Nat.le_of_ble_eq_true rfl⟩⟩
theorem k_X6_pinHottest_200 : aKV mX6_pinHottest mX5_size 200 0 5 := ⟨cb_X5_size, rfl, ml_X6_200, iv_X5_size, sl_X5_size, ⟨_, _, rfl⟩, ⟨Nat.le_of_ble_eq_true rfl, Nat.le_of_ble_eq_true rfl⟩⟩
theorem k_X6_pinHottest_179 : aKV mX6_pinHottest mX0_upCount 179 0 0 := ⟨cb_X0_upCount, rfl, ml_X6_179, iv_X0_upCount, sl_X0_upCount, ⟨_, _, rfl⟩, ⟨Nat.le_of_ble_eq_true rfl, Nat.le_of_ble_eq_true rfl⟩⟩
theorem k_X6_pinHottest_205 : aKV mX6_pinHottest mX5_key 205 1 5 := ⟨cb_X5_key, rfl, ml_X6_205, iv_X5_key, sl_X5_key, ⟨_, _, rfl⟩, ⟨Nat.le_of_ble_eq_true rfl, Nat.le_of_ble_eq_true rfl⟩⟩
theorem k_X6_pinHottest_190 : aKV mX6_pinHottest mX6_checkRoomForPin 190 1 6 := ⟨cb_X6_checkRoomForPin, rfl, ml_X6_190, iv_X6_checkRoomForPin, sl_X6_checkRoomForPin, ⟨_, _, rfl⟩, ⟨Nat.le_of_ble_eq_true rfl, Nat.le_of_ble_eq_true rfl⟩⟩
theorem k_X6_pinHottest_187 : aKV mX6_pinHottest mX0_ranked 187 1 0 := ⟨cb_X0_ranked, rfl, ml_X6_187, iv_X0_ranked, sl_X0_ranked, ⟨_, _, rfl⟩, ⟨Nat.le_of_ble_eq_true rfl, Nat.le_of_ble_eq_true rfl⟩⟩
theorem k_X6_pinHottest_193 : aKV mX6_pinHottest mX2_put 193 2 2 := ⟨cb_X2_put, rfl, ml_X6_193, iv_X2_put, sl_X2_put, ⟨_, _, rfl⟩, ⟨Nat.le_of_ble_eq_true rfl, Nat.le_of_ble_eq_true rfl⟩⟩
/-! ===== PreferenceTable: its methods, changes ===== -/
theorem pKe_lt (keep : Int32 → Int32 → Bool) : ∀ (k j : Nat) (σ : pT), σ.2.2 ≤ j → (∃ i, j ≤ i ∧ i < j + k ∧ keep (σ.1 i) (σ.2.1 i) = false) → (aLp (pSt keep) k j σ).2.2 < j + k
  | 0, j, σ, _, ⟨i, h1, h2, _⟩ => by omega
  | k + 1, j, σ, hc, ⟨i, h1, h2, h3⟩ => by
    show (aLp (pSt keep) k (j + 1) (pSt keep j σ)).2.2 < _
    have hh : (pSt keep j σ).2.2 ≤ j + 1 := by
      unfold pSt
      split
      · show σ.2.2 + 1 ≤ j + 1
        omega
      · omega
    rcases Nat.lt_or_ge j i with q | q
    · have hs : (pSt keep j σ).1 i = σ.1 i ∧ (pSt keep j σ).2.1 i = σ.2.1 i := by
        unfold pSt
        split
        · exact ⟨if_neg (by omega), if_neg (by omega)⟩
        · exact ⟨rfl, rfl⟩
      have := pKe_lt keep k (j + 1) (pSt keep j σ) hh ⟨i, by omega, by omega, by rw [hs.1, hs.2]; exact h3⟩
      omega
    · have hij : i = j := by omega
      subst hij
      have hs : pSt keep i σ = σ := by unfold pSt; rw [h3]; rfl
      rw [hs]
      have := pKe_le keep k i σ hc
      have h9 : ∀ (k j : Nat) (σ : pT), (aLp (pSt keep) k j σ).2.2 ≤ σ.2.2 + k := by
        intro k
        induction k with
        | zero => intro j σ; exact Nat.le_refl _
        | succ k ih =>
          intro j σ
          show (aLp (pSt keep) k (j + 1) (pSt keep j σ)).2.2 ≤ _
          have h1 := ih (j + 1) (pSt keep j σ)
          have h2 : (pSt keep j σ).2.2 ≤ σ.2.2 + 1 := by
            unfold pSt
            split
            · exact Nat.le_refl _
            · omega
          omega
      have := h9 k (i + 1) σ
      omega
/-- the pins with a key put anew -/
abbrev pOt (t : fT) (key : Int32) : pT := pKe (fun k _ => decide (¬ k = key)) t.2.2.2.2.1 t.2.2.2.2.2.1 t.2.2.2.2.2.2
theorem pOt_lt {t : fT} {key : Int32} (hm : t.2.2.2.2.2.2 ≤ 6) (h : gRm t key = true) : (pOt t key).2.2 < 6 := by
  simp only [gRm, Bool.or_eq_true, decide_eq_true_eq] at h
  rcases h with h | h
  · cases hf : aFo (fun j => decide (t.2.2.2.2.1 j = key)) t.2.2.2.2.2.2 0 with
    | none => exact absurd (by unfold pKy pSv; rw [hf]) h
    | some i =>
      obtain ⟨h1, h2, h3⟩ := aFo_some hf
      have := pKe_lt (fun k _ => decide (¬ k = key)) t.2.2.2.2.2.2 0 (t.2.2.2.2.1, t.2.2.2.2.2.1, 0) (Nat.le_refl _) ⟨i, h1, h2, by simpa using h3⟩
      unfold pOt pKe
      omega
  · have h1 : t.2.2.2.2.2.2 < 6 := by
      rcases Nat.lt_or_ge t.2.2.2.2.2.2 6 with q | q
      · exact q
      · exact absurd h (nI_nlt (b := 6) q (by omega))
    have := pKe_le (fun k _ => decide (¬ k = key)) t.2.2.2.2.2.2 0 (t.2.2.2.2.1, t.2.2.2.2.2.1, 0) (Nat.le_refl _)
    unfold pOt pKe
    omega
theorem gKy_N {n : Int32} (h : gKy n = true) : ∃ k, k ≤ 99999 ∧ n = nI k := by
  simp only [gKy, Bool.and_eq_true, decide_eq_true_eq] at h
  exact nI_of2 (M := 99999) (n := 99999) (by decide) h.1 h.2
theorem lt10 {n : Int32} (h : ¬ n < 1) : ¬ n < 0 := by
  intro z
  apply h
  rw [Int32.lt_iff_toInt_lt] at z ⊢
  have e0 : (0 : Int32).toInt = 0 := by decide
  have e1 : (1 : Int32).toInt = 1 := by decide
  omega
theorem gWt_N {n : Int32} (h : gWt n = true) : ∃ k, 1 ≤ k ∧ k ≤ 16 ∧ n = nI k := by
  simp only [gWt, Bool.and_eq_true, decide_eq_true_eq] at h
  have h0 : ¬ n < 0 := lt10 h.1
  obtain ⟨k, hk, rfl⟩ := nI_of2 (M := 16) (n := 16) (by decide) h0 h.2
  refine ⟨k, ?_, hk, rfl⟩
  rcases Nat.eq_zero_or_pos k with q | q
  · subst q; exact absurd (by decide) h.1
  · exact q
theorem gNm_N {n : Int32} (h : gNm n = true) : ∃ k, 1 ≤ k ∧ k ≤ 9999 ∧ n = nI k := by
  simp only [gNm, Bool.and_eq_true, decide_eq_true_eq] at h
  have h0 : ¬ n < 0 := lt10 h.1
  obtain ⟨k, hk, rfl⟩ := nI_of2 (M := 9999) (n := 9999) (by decide) h0 h.2
  refine ⟨k, ?_, hk, rfl⟩
  rcases Nat.eq_zero_or_pos k with q | q
  · subst q; exact absurd (by decide) h.1
  · exact q
/-- the server of a key -/
def xLk (t : fT) (b : bT) (kk : Nat) : Int32 := if fUp (cS t).1 (cS t).2.2.1 (pKy t (nI kk)) then pKy t (nI kk) else b.2.1 (sKy b.1 kk)
def gRq (n : Int32) : Bool := decide (¬ n < 1) && decide (n ≤ 1000000)
section PT4
variable {l : Launch} {X : aX} {t : fT} {b : bT} {k : kT} {y : hT}
theorem c_X6_lookUp (ht : fOk t) (hb : bOk b) (kk : Nat) (hk : kk ≤ 99999) : aRd l X mX6_lookUp [0] [.ref 0, .int (nI kk)] (aPT t b k y) (.int (xLk t b kk)) := by
  refine aMt.of (by decide) rfl (Nat.le_of_ble_eq_true rfl) ?_
  have hb1 := hb.1
  refine a_aload_n dX6_lookUp_0 rfl ?_
  refine a_get fl_X6_19 dX6_lookUp_1 rfl rfl ?_
  refine a_iload_n dX6_lookUp_4 rfl ?_
  refine a_ViR [6, 7, 8] k_X6_lookUp_196 (c_X2_server (pk := t.2.2.2.2.1) (ps := t.2.2.2.2.2.1) ht.2.2 (nI kk)) dX6_lookUp_5 rfl rfl rfl rfl rfl rfl (Nat.le_of_ble_eq_true rfl) ⟨Nat.le_of_ble_eq_true rfl, Nat.le_of_ble_eq_true rfl⟩ ⟨rfl, rfl⟩ ?_
  refine a_istore_n dX6_lookUp_8 (by decide) rfl ?_
  refine a_aload_n dX6_lookUp_9 rfl ?_
  refine a_get fl_X6_10 dX6_lookUp_10 rfl rfl ?_
  refine a_iload_n dX6_lookUp_13 rfl ?_
  refine a_ViR [1, 2, 3, 4, 5] k_X6_lookUp_143 (c_X0_isUp (nm := (cS t).1) (wt := (cS t).2.1) (up := (cS t).2.2.1) (ld := (cS t).2.2.2.1) (pKy t (nI kk))) dX6_lookUp_14 rfl rfl rfl rfl rfl rfl (Nat.le_of_ble_eq_true rfl) ⟨Nat.le_of_ble_eq_true rfl, Nat.le_of_ble_eq_true rfl⟩ ⟨rfl, rfl⟩ ?_
  refine a_if_eq 24 dX6_lookUp_17 (by decide) (fun c17 => ?_) (fun c17 => ?_)
  · have ho := c_X3_owner (l := l) (X := X) (ow := b.2.1) (dr := b.2.2.1) (tr := b.2.2.2.1) (ch := b.2.2.2.2.1) (fo := b.2.2.2.2.2) hb.2 (nI (sKy b.1 kk))
    have hs : sKy b.1 kk < b.1 := Nat.mod_lt _ (by omega)
    have hb2 := hb.2
    rw [if_pos (sSl_j hs hb.2), cl61 (by omega)] at ho
    refine a_aload_n dX6_lookUp_24 rfl ?_
    refine a_get fl_X6_28 dX6_lookUp_25 rfl rfl ?_
    refine a_aload_n dX6_lookUp_28 rfl ?_
    refine a_get fl_X6_28 dX6_lookUp_29 rfl rfl ?_
    refine a_iload_n dX6_lookUp_32 rfl ?_
    refine a_ViR [9, 10, 11, 12] k_X6_lookUp_247 (c_X3_slotOfKey (ow := b.2.1) (dr := b.2.2.1) (tr := b.2.2.2.1) (ch := b.2.2.2.2.1) (fo := b.2.2.2.2.2) (by omega) hb.2 kk hk) dX6_lookUp_33 rfl rfl rfl rfl rfl rfl (Nat.le_of_ble_eq_true rfl) ⟨Nat.le_of_ble_eq_true rfl, Nat.le_of_ble_eq_true rfl⟩ ⟨rfl, rfl⟩ ?_
    refine a_ViR [9, 10, 11, 12] k_X6_lookUp_75 (ho) dX6_lookUp_36 rfl rfl rfl rfl rfl rfl (Nat.le_of_ble_eq_true rfl) ⟨Nat.le_of_ble_eq_true rfl, Nat.le_of_ble_eq_true rfl⟩ ⟨rfl, rfl⟩ ?_
    refine a_iret rfl dX6_lookUp_39 (by decide) (by decide) ?_
    exact ⟨by simp [xLk, bI_0 c17], rfl⟩
  · refine a_iload_n dX6_lookUp_20 rfl ?_
    refine a_goto 39 dX6_lookUp_21 (by decide) ?_
    refine a_iret rfl dX6_lookUp_39 (by decide) (by decide) ?_
    exact ⟨by simp [xLk, bI_1 c17], rfl⟩
theorem c_X6_serverOf (hl : l.stackTraces = false) (ht : fOk t) (hb : bOk b) (n : Int32) : aMt l X mX6_serverOf [0] [.ref 0, .int n] (aPT t b k y) (fun o h' => o = (if gKy n then .inl (some (.int (xLk t b n.toNatClampNeg))) else .inr IAE) ∧ h' = aPT t b k y) := by
  refine aMt.of (by decide) rfl (Nat.le_of_ble_eq_true rfl) ?_
  have hck := c_X6_checkKey (X := X) hl n
  by_cases hg : gKy n = true
  · rw [if_pos hg] at hck ⊢
    obtain ⟨kk, hk, rfl⟩ := gKy_N hg
    rw [nI_clamp (by omega)]
    refine a_iload_n dX6_serverOf_0 rfl ?_
    refine a_Sr [] k_X6_serverOf_164 (hck) dX6_serverOf_1 rfl rfl rfl rfl rfl (Nat.le_of_ble_eq_true rfl) ⟨Nat.le_of_ble_eq_true rfl, Nat.le_of_ble_eq_true rfl⟩ ?_
    refine a_aload_n dX6_serverOf_4 rfl ?_
    refine a_iload_n dX6_serverOf_5 rfl ?_
    refine a_ViR is55 k_X6_serverOf_167 (c_X6_lookUp ht hb kk hk) dX6_serverOf_6 rfl rfl rfl rfl rfl rfl (Nat.le_of_ble_eq_true rfl) ⟨Nat.le_of_ble_eq_true rfl, Nat.le_of_ble_eq_true rfl⟩ ⟨rfl, rfl⟩ ?_
    refine a_iret rfl dX6_serverOf_9 (by decide) (by decide) ?_
    exact ⟨rfl, rfl⟩
  · rw [if_neg hg] at hck ⊢
    refine a_iload_n dX6_serverOf_0 rfl ?_
    refine a_Sx [] k_X6_serverOf_164 (hck) dX6_serverOf_1 rfl rfl rfl rfl rfl (Nat.le_of_ble_eq_true rfl) ⟨Nat.le_of_ble_eq_true rfl, Nat.le_of_ble_eq_true rfl⟩ rfl ?_
    exact ⟨rfl, rfl⟩
theorem c_X6_request (hl : l.stackTraces = false) (ht : fOk t) (hb : bOk b) (hk8 : k.2 ≤ 8) (key n : Int32) : aMt l X mX6_request [0] [.ref 0, .int key, .int n] (aPT t b k y) (fun o h' => o = (if gKy key && gRq n then .inl (some (.int (xLk t b key.toNatClampNeg))) else .inr IAE) ∧ h' = (if gKy key && gRq n then aPT (fAld t (xLk t b key.toNatClampNeg) n) b (tCt key n k.1 k.2) y else aPT t b k y)) := by
  refine aMt.of (by decide) rfl (Nat.le_of_ble_eq_true rfl) ?_
  have hck := c_X6_checkKey (X := X) hl key
  by_cases hg : gKy key = true
  · rw [if_pos hg] at hck
    obtain ⟨kk, hk, rfl⟩ := gKy_N hg
    rw [nI_clamp (by omega)]
    refine a_iload_n dX6_request_0 rfl ?_
    refine a_Sr [] k_X6_request_164 (hck) dX6_request_1 rfl rfl rfl rfl rfl (Nat.le_of_ble_eq_true rfl) ⟨Nat.le_of_ble_eq_true rfl, Nat.le_of_ble_eq_true rfl⟩ ?_
    refine a_iload_n dX6_request_4 rfl ?_
    refine a_iconst 1 dX6_request_5 (by decide) ?_
    refine a_icmp_lt 15 dX6_request_6 (by decide) (fun c6 => ?_) (fun c6 => ?_)
    · refine a_throw hl tw_54 tx_X6_171 rfl dX6_request_15 dX6_request_18 dX6_request_19 dX6_request_21 dX6_request_24 ⟨Nat.le_of_ble_eq_true rfl, Nat.le_of_ble_eq_true rfl⟩ (Nat.le_of_ble_eq_true rfl) (Nat.le_of_ble_eq_true rfl) ?_
      have : gRq n = false := by simp [gRq, c6]
      exact ⟨by simp [this], by simp [this]⟩
    · refine a_iload_n dX6_request_9 rfl ?_
      refine a_ldc dX6_request_10 cn_X6_170 ?_
      refine a_icmp_le 25 dX6_request_12 (by decide) (fun c12 => ?_) (fun c12 => ?_)
      · have hr : gRq n = true := by simp [gRq, c6, c12]
        rw [hg, hr]
        refine a_aload_n dX6_request_25 rfl ?_
        refine a_iload_n dX6_request_26 rfl ?_
        refine a_ViR is55 k_X6_request_167 (c_X6_lookUp ht hb kk hk) dX6_request_27 rfl rfl rfl rfl rfl rfl (Nat.le_of_ble_eq_true rfl) ⟨Nat.le_of_ble_eq_true rfl, Nat.le_of_ble_eq_true rfl⟩ ⟨rfl, rfl⟩ ?_
        refine a_istore_n dX6_request_30 (by decide) rfl ?_
        refine a_aload_n dX6_request_31 rfl ?_
        refine a_get fl_X6_10 dX6_request_32 rfl rfl ?_
        refine a_iload_n dX6_request_35 rfl ?_
        refine a_iload_n dX6_request_36 rfl ?_
        refine a_VvW [1, 2, 3, 4, 5] (aPT (fAld t (xLk t b kk) n) b k y) k_X6_request_173 (c_X0_addLoad (nm := (cS t).1) (wt := (cS t).2.1) (up := (cS t).2.2.1) (ld := (cS t).2.2.2.1) (xLk t b kk) n) dX6_request_37 rfl rfl rfl rfl rfl rfl (Nat.le_of_ble_eq_true rfl) ⟨Nat.le_of_ble_eq_true rfl, Nat.le_of_ble_eq_true rfl⟩ ⟨rfl, rfl⟩ (Nat.le_of_ble_eq_true rfl) rfl ?_
        refine a_aload_n dX6_request_40 rfl ?_
        refine a_get fl_X6_35 dX6_request_41 rfl rfl ?_
        refine a_iload_n dX6_request_44 rfl ?_
        refine a_iload_n dX6_request_45 rfl ?_
        refine a_VvW [13, 14, 15, 16] (aPT (fAld t (xLk t b kk) n) b (tCt (nI kk) n k.1 k.2) y) k_X6_request_176 (c_X5_count (tk := k.1.1) (tc := k.1.2.1) (te := k.1.2.2) hk8 (nI kk) n) dX6_request_46 rfl rfl rfl rfl rfl rfl (Nat.le_of_ble_eq_true rfl) ⟨Nat.le_of_ble_eq_true rfl, Nat.le_of_ble_eq_true rfl⟩ ⟨rfl, rfl⟩ (Nat.le_of_ble_eq_true rfl) rfl ?_
        refine a_iload_n dX6_request_49 rfl ?_
        refine a_iret rfl dX6_request_50 (by decide) (by decide) ?_
        exact ⟨rfl, rfl⟩
      · refine a_throw hl tw_54 tx_X6_171 rfl dX6_request_15 dX6_request_18 dX6_request_19 dX6_request_21 dX6_request_24 ⟨Nat.le_of_ble_eq_true rfl, Nat.le_of_ble_eq_true rfl⟩ (Nat.le_of_ble_eq_true rfl) (Nat.le_of_ble_eq_true rfl) ?_
        have : gRq n = false := by simp [gRq, c12]
        exact ⟨by simp [this], by simp [this]⟩
  · rw [if_neg hg] at hck
    refine a_iload_n dX6_request_0 rfl ?_
    refine a_Sx [] k_X6_request_164 (hck) dX6_request_1 rfl rfl rfl rfl rfl (Nat.le_of_ble_eq_true rfl) ⟨Nat.le_of_ble_eq_true rfl, Nat.le_of_ble_eq_true rfl⟩ rfl ?_
    have : gKy key = false := by simpa using hg
    exact ⟨by simp [this], by simp [this]⟩
theorem c_X6_pin (hl : l.stackTraces = false) (ht : fOk t) (key s : Int32) : aMt l X mX6_pin [0] [.ref 0, .int key, .int s] (aPT t b k y) (fun o h' => o = (if gKy key && fHs (cS t).1 s then (if gRm t key then .inl (some (.int (nI (pAp key s (pOt t key)).2.2))) else .inr ISE) else .inr IAE) ∧ h' = (if gKy key && fHs (cS t).1 s && gRm t key then aPT (fPin t (pAp key s (pOt t key))) b k y else aPT t b k y)) := by
  refine aMt.of (by decide) rfl (Nat.le_of_ble_eq_true rfl) ?_
  have hck := c_X6_checkKey (X := X) hl key
  by_cases hg : gKy key = true
  · rw [if_pos hg] at hck
    have hcs := c_X6_checkServer (X := X) (t := t) (b := b) (k := k) (y := y) hl s
    by_cases hs : fHs (cS t).1 s = true
    · rw [if_pos hs] at hcs
      have hcr := c_X6_checkRoomForPin (X := X) (t := t) (b := b) (k := k) (y := y) hl ht.2.2 key
      by_cases hr : gRm t key = true
      · rw [if_pos hr] at hcr
        rw [hg, hs, hr]
        refine a_iload_n dX6_pin_0 rfl ?_
        refine a_Sr [] k_X6_pin_164 (hck) dX6_pin_1 rfl rfl rfl rfl rfl (Nat.le_of_ble_eq_true rfl) ⟨Nat.le_of_ble_eq_true rfl, Nat.le_of_ble_eq_true rfl⟩ ?_
        refine a_aload_n dX6_pin_4 rfl ?_
        refine a_iload_n dX6_pin_5 rfl ?_
        refine a_Vr is55 k_X6_pin_123 (hcs) dX6_pin_6 rfl rfl rfl rfl rfl rfl (Nat.le_of_ble_eq_true rfl) ⟨Nat.le_of_ble_eq_true rfl, Nat.le_of_ble_eq_true rfl⟩ ?_
        refine a_aload_n dX6_pin_9 rfl ?_
        refine a_iload_n dX6_pin_10 rfl ?_
        refine a_Vr is55 k_X6_pin_190 (hcr) dX6_pin_11 rfl rfl rfl rfl rfl rfl (Nat.le_of_ble_eq_true rfl) ⟨Nat.le_of_ble_eq_true rfl, Nat.le_of_ble_eq_true rfl⟩ ?_
        refine a_aload_n dX6_pin_14 rfl ?_
        refine a_get fl_X6_19 dX6_pin_15 rfl rfl ?_
        refine a_iload_n dX6_pin_18 rfl ?_
        refine a_iload_n dX6_pin_19 rfl ?_
        refine a_VvW [6, 7, 8] (aPT (fPin t (pAp key s (pOt t key))) b k y) k_X6_pin_193 (c_X2_put (pk := t.2.2.2.2.1) (ps := t.2.2.2.2.2.1) ht.2.2 key s (pOt_lt ht.2.2 hr)) dX6_pin_20 rfl rfl rfl rfl rfl rfl (Nat.le_of_ble_eq_true rfl) ⟨Nat.le_of_ble_eq_true rfl, Nat.le_of_ble_eq_true rfl⟩ ⟨rfl, rfl⟩ (Nat.le_of_ble_eq_true rfl) rfl ?_
        refine a_aload_n dX6_pin_23 rfl ?_
        refine a_get fl_X6_19 dX6_pin_24 rfl rfl ?_
        refine a_ViR [6, 7, 8] k_X6_pin_195 (c_X2_size (pk := (pAp key s (pOt t key)).1) (ps := (pAp key s (pOt t key)).2.1) (m := (pAp key s (pOt t key)).2.2)) dX6_pin_27 rfl rfl rfl rfl rfl rfl (Nat.le_of_ble_eq_true rfl) ⟨Nat.le_of_ble_eq_true rfl, Nat.le_of_ble_eq_true rfl⟩ ⟨rfl, rfl⟩ ?_
        refine a_iret rfl dX6_pin_30 (by decide) (by decide) ?_
        exact ⟨rfl, rfl⟩
      · rw [if_neg hr] at hcr
        have hr : gRm t key = false := by simpa using hr
        rw [hg, hs, hr]
        refine a_iload_n dX6_pin_0 rfl ?_
        refine a_Sr [] k_X6_pin_164 (hck) dX6_pin_1 rfl rfl rfl rfl rfl (Nat.le_of_ble_eq_true rfl) ⟨Nat.le_of_ble_eq_true rfl, Nat.le_of_ble_eq_true rfl⟩ ?_
        refine a_aload_n dX6_pin_4 rfl ?_
        refine a_iload_n dX6_pin_5 rfl ?_
        refine a_Vr is55 k_X6_pin_123 (hcs) dX6_pin_6 rfl rfl rfl rfl rfl rfl (Nat.le_of_ble_eq_true rfl) ⟨Nat.le_of_ble_eq_true rfl, Nat.le_of_ble_eq_true rfl⟩ ?_
        refine a_aload_n dX6_pin_9 rfl ?_
        refine a_iload_n dX6_pin_10 rfl ?_
        refine a_Vx is55 k_X6_pin_190 (hcr) dX6_pin_11 rfl rfl rfl rfl rfl rfl (Nat.le_of_ble_eq_true rfl) ⟨Nat.le_of_ble_eq_true rfl, Nat.le_of_ble_eq_true rfl⟩ rfl ?_
        exact ⟨rfl, rfl⟩
    · rw [if_neg hs] at hcs
      have hs : fHs (cS t).1 s = false := by simpa using hs
      rw [hg, hs]
      refine a_iload_n dX6_pin_0 rfl ?_
      refine a_Sr [] k_X6_pin_164 (hck) dX6_pin_1 rfl rfl rfl rfl rfl (Nat.le_of_ble_eq_true rfl) ⟨Nat.le_of_ble_eq_true rfl, Nat.le_of_ble_eq_true rfl⟩ ?_
      refine a_aload_n dX6_pin_4 rfl ?_
      refine a_iload_n dX6_pin_5 rfl ?_
      refine a_Vx is55 k_X6_pin_123 (hcs) dX6_pin_6 rfl rfl rfl rfl rfl rfl (Nat.le_of_ble_eq_true rfl) ⟨Nat.le_of_ble_eq_true rfl, Nat.le_of_ble_eq_true rfl⟩ rfl ?_
      exact ⟨rfl, rfl⟩
  · rw [if_neg hg] at hck
    have hg : gKy key = false := by simpa using hg
    rw [hg]
    refine a_iload_n dX6_pin_0 rfl ?_
    refine a_Sx [] k_X6_pin_164 (hck) dX6_pin_1 rfl rfl rfl rfl rfl (Nat.le_of_ble_eq_true rfl) ⟨Nat.le_of_ble_eq_true rfl, Nat.le_of_ble_eq_true rfl⟩ rfl ?_
    exact ⟨rfl, rfl⟩
theorem c_X6_unpin (hl : l.stackTraces = false) (ht : fOk t) (key : Int32) : aMt l X mX6_unpin [0] [.ref 0, .int key] (aPT t b k y) (fun o h' => o = (if gKy key then .inl (some (.int (pKy t key))) else .inr IAE) ∧ h' = (if gKy key then aPT (fPin t (pOt t key)) b k y else aPT t b k y)) := by
  refine aMt.of (by decide) rfl (Nat.le_of_ble_eq_true rfl) ?_
  have hck := c_X6_checkKey (X := X) hl key
  by_cases hg : gKy key = true
  · rw [if_pos hg] at hck
    rw [if_pos hg, if_pos hg]
    refine a_iload_n dX6_unpin_0 rfl ?_
    refine a_Sr [] k_X6_unpin_164 (hck) dX6_unpin_1 rfl rfl rfl rfl rfl (Nat.le_of_ble_eq_true rfl) ⟨Nat.le_of_ble_eq_true rfl, Nat.le_of_ble_eq_true rfl⟩ ?_
    refine a_aload_n dX6_unpin_4 rfl ?_
    refine a_get fl_X6_19 dX6_unpin_5 rfl rfl ?_
    refine a_iload_n dX6_unpin_8 rfl ?_
    refine a_ViR [6, 7, 8] k_X6_unpin_196 (c_X2_server (pk := t.2.2.2.2.1) (ps := t.2.2.2.2.2.1) ht.2.2 key) dX6_unpin_9 rfl rfl rfl rfl rfl rfl (Nat.le_of_ble_eq_true rfl) ⟨Nat.le_of_ble_eq_true rfl, Nat.le_of_ble_eq_true rfl⟩ ⟨rfl, rfl⟩ ?_
    refine a_istore_n dX6_unpin_12 (by decide) rfl ?_
    refine a_aload_n dX6_unpin_13 rfl ?_
    refine a_get fl_X6_19 dX6_unpin_14 rfl rfl ?_
    refine a_iload_n dX6_unpin_17 rfl ?_
    refine a_VvW [6, 7, 8] (aPT (fPin t (pOt t key)) b k y) k_X6_unpin_199 (c_X2_drop (pk := t.2.2.2.2.1) (ps := t.2.2.2.2.2.1) ht.2.2 key) dX6_unpin_18 rfl rfl rfl rfl rfl rfl (Nat.le_of_ble_eq_true rfl) ⟨Nat.le_of_ble_eq_true rfl, Nat.le_of_ble_eq_true rfl⟩ ⟨rfl, rfl⟩ (Nat.le_of_ble_eq_true rfl) rfl ?_
    refine a_iload_n dX6_unpin_21 rfl ?_
    refine a_iret rfl dX6_unpin_22 (by decide) (by decide) ?_
    exact ⟨rfl, rfl⟩
  · rw [if_neg hg] at hck
    rw [if_neg hg, if_neg hg]
    refine a_iload_n dX6_unpin_0 rfl ?_
    refine a_Sx [] k_X6_unpin_164 (hck) dX6_unpin_1 rfl rfl rfl rfl rfl (Nat.le_of_ble_eq_true rfl) ⟨Nat.le_of_ble_eq_true rfl, Nat.le_of_ble_eq_true rfl⟩ rfl ?_
    exact ⟨rfl, rfl⟩
abbrev xHs (t : fT) : Int32 := fRd (cS t).1 (cS t).2.1 (cS t).2.2.1 (cS t).2.2.2.1 (fUc (cS t).1 (cS t).2.2.1 - 1)
def gPh (t : fT) (k : kT) : Bool := decide (¬ nI k.2 = 0) && (decide (¬ fUc (cS t).1 (cS t).2.2.1 = 0) && gRm t (k.1.1 0))
theorem c_X6_pinHottest (hl : l.stackTraces = false) (ht : fOk t) (hk8 : k.2 ≤ 8) : aMt l X mX6_pinHottest [0] [.ref 0] (aPT t b k y) (fun o h' => o = (if gPh t k then .inl (some (.int (xHs t))) else .inr ISE) ∧ h' = (if gPh t k then aPT (fPin t (pAp (k.1.1 0) (xHs t) (pOt t (k.1.1 0)))) b k y else aPT t b k y)) := by
  refine aMt.of (by decide) rfl (Nat.le_of_ble_eq_true rfl) ?_
  refine a_aload_n dX6_pinHottest_0 rfl ?_
  refine a_get fl_X6_35 dX6_pinHottest_1 rfl rfl ?_
  refine a_ViR [13, 14, 15, 16] k_X6_pinHottest_200 (c_X5_size (tk := k.1.1) (tc := k.1.2.1) (te := k.1.2.2) (m := k.2)) dX6_pinHottest_4 rfl rfl rfl rfl rfl rfl (Nat.le_of_ble_eq_true rfl) ⟨Nat.le_of_ble_eq_true rfl, Nat.le_of_ble_eq_true rfl⟩ ⟨rfl, rfl⟩ ?_
  refine a_if_ne 20 dX6_pinHottest_7 (by decide) (fun c7 => ?_) (fun c7 => ?_)
  · have h0 : 0 < k.2 := by
      rcases Nat.eq_zero_or_pos k.2 with q | q
      · rw [q] at c7; exact absurd rfl c7
      · exact q
    refine a_aload_n dX6_pinHottest_20 rfl ?_
    refine a_get fl_X6_10 dX6_pinHottest_21 rfl rfl ?_
    refine a_ViR [1, 2, 3, 4, 5] k_X6_pinHottest_179 (c_X0_upCount (nm := (cS t).1) (wt := (cS t).2.1) (up := (cS t).2.2.1) (ld := (cS t).2.2.2.1)) dX6_pinHottest_24 rfl rfl rfl rfl rfl rfl (Nat.le_of_ble_eq_true rfl) ⟨Nat.le_of_ble_eq_true rfl, Nat.le_of_ble_eq_true rfl⟩ ⟨rfl, rfl⟩ ?_
    refine a_istore_n dX6_pinHottest_27 (by decide) rfl ?_
    refine a_iload_n dX6_pinHottest_28 rfl ?_
    refine a_if_ne 42 dX6_pinHottest_29 (by decide) (fun c29 => ?_) (fun c29 => ?_)
    · have hcr := c_X6_checkRoomForPin (X := X) (t := t) (b := b) (k := k) (y := y) hl ht.2.2 (k.1.1 0)
      have hk0 := c_X5_key_j (l := l) (X := X) (tk := k.1.1) (tc := k.1.2.1) (te := k.1.2.2) h0 hk8
      by_cases hr : gRm t (k.1.1 0) = true
      · rw [if_pos hr] at hcr
        have hg : gPh t k = true := by simp [gPh, c7, c29, hr]
        rw [if_pos hg, if_pos hg]
        refine a_aload_n dX6_pinHottest_42 rfl ?_
        refine a_get fl_X6_35 dX6_pinHottest_43 rfl rfl ?_
        refine a_iconst 0 dX6_pinHottest_46 (by decide) ?_
        refine a_ViR [13, 14, 15, 16] k_X6_pinHottest_205 (hk0) dX6_pinHottest_47 rfl rfl rfl rfl rfl rfl (Nat.le_of_ble_eq_true rfl) ⟨Nat.le_of_ble_eq_true rfl, Nat.le_of_ble_eq_true rfl⟩ ⟨rfl, rfl⟩ ?_
        refine a_istore_n dX6_pinHottest_50 (by decide) rfl ?_
        refine a_aload_n dX6_pinHottest_51 rfl ?_
        refine a_iload_n dX6_pinHottest_52 rfl ?_
        refine a_Vr is55 k_X6_pinHottest_190 (hcr) dX6_pinHottest_53 rfl rfl rfl rfl rfl rfl (Nat.le_of_ble_eq_true rfl) ⟨Nat.le_of_ble_eq_true rfl, Nat.le_of_ble_eq_true rfl⟩ ?_
        refine a_aload_n dX6_pinHottest_56 rfl ?_
        refine a_get fl_X6_10 dX6_pinHottest_57 rfl rfl ?_
        refine a_iload_n dX6_pinHottest_60 rfl ?_
        refine a_iconst 1 dX6_pinHottest_61 (by decide) ?_
        refine a_isub dX6_pinHottest_62 ?_
        refine a_ViR [1, 2, 3, 4, 5] k_X6_pinHottest_187 (c_X0_ranked (nm := (cS t).1) (wt := (cS t).2.1) (up := (cS t).2.2.1) (ld := (cS t).2.2.2.1) (fUc (cS t).1 (cS t).2.2.1 - 1)) dX6_pinHottest_63 rfl rfl rfl rfl rfl rfl (Nat.le_of_ble_eq_true rfl) ⟨Nat.le_of_ble_eq_true rfl, Nat.le_of_ble_eq_true rfl⟩ ⟨rfl, rfl⟩ ?_
        refine a_istore_n dX6_pinHottest_66 (by decide) rfl ?_
        refine a_aload_n dX6_pinHottest_67 rfl ?_
        refine a_get fl_X6_19 dX6_pinHottest_68 rfl rfl ?_
        refine a_iload_n dX6_pinHottest_71 rfl ?_
        refine a_iload_n dX6_pinHottest_72 rfl ?_
        refine a_VvW [6, 7, 8] (aPT (fPin t (pAp (k.1.1 0) (xHs t) (pOt t (k.1.1 0)))) b k y) k_X6_pinHottest_193 (c_X2_put (pk := t.2.2.2.2.1) (ps := t.2.2.2.2.2.1) ht.2.2 (k.1.1 0) (xHs t) (pOt_lt ht.2.2 hr)) dX6_pinHottest_73 rfl rfl rfl rfl rfl rfl (Nat.le_of_ble_eq_true rfl) ⟨Nat.le_of_ble_eq_true rfl, Nat.le_of_ble_eq_true rfl⟩ ⟨rfl, rfl⟩ (Nat.le_of_ble_eq_true rfl) rfl ?_
        refine a_iload_n dX6_pinHottest_76 rfl ?_
        refine a_iret rfl dX6_pinHottest_77 (by decide) (by decide) ?_
        exact ⟨rfl, rfl⟩
      · rw [if_neg hr] at hcr
        have hg : ¬ gPh t k = true := by simp [gPh, hr]
        rw [if_neg hg, if_neg hg]
        refine a_aload_n dX6_pinHottest_42 rfl ?_
        refine a_get fl_X6_35 dX6_pinHottest_43 rfl rfl ?_
        refine a_iconst 0 dX6_pinHottest_46 (by decide) ?_
        refine a_ViR [13, 14, 15, 16] k_X6_pinHottest_205 (hk0) dX6_pinHottest_47 rfl rfl rfl rfl rfl rfl (Nat.le_of_ble_eq_true rfl) ⟨Nat.le_of_ble_eq_true rfl, Nat.le_of_ble_eq_true rfl⟩ ⟨rfl, rfl⟩ ?_
        refine a_istore_n dX6_pinHottest_50 (by decide) rfl ?_
        refine a_aload_n dX6_pinHottest_51 rfl ?_
        refine a_iload_n dX6_pinHottest_52 rfl ?_
        refine a_Vx is55 k_X6_pinHottest_190 (hcr) dX6_pinHottest_53 rfl rfl rfl rfl rfl rfl (Nat.le_of_ble_eq_true rfl) ⟨Nat.le_of_ble_eq_true rfl, Nat.le_of_ble_eq_true rfl⟩ rfl ?_
        exact ⟨rfl, rfl⟩
    · refine a_throw hl tw_105 tx_X6_203 rfl dX6_pinHottest_32 dX6_pinHottest_35 dX6_pinHottest_36 dX6_pinHottest_38 dX6_pinHottest_41 ⟨Nat.le_of_ble_eq_true rfl, Nat.le_of_ble_eq_true rfl⟩ (Nat.le_of_ble_eq_true rfl) (Nat.le_of_ble_eq_true rfl) ?_
      have hg : ¬ gPh t k = true := by simp [gPh, c29]
      rw [if_neg hg, if_neg hg]
      exact ⟨rfl, rfl⟩
  · refine a_throw hl tw_105 tx_X6_201 rfl dX6_pinHottest_10 dX6_pinHottest_13 dX6_pinHottest_14 dX6_pinHottest_16 dX6_pinHottest_19 ⟨Nat.le_of_ble_eq_true rfl, Nat.le_of_ble_eq_true rfl⟩ (Nat.le_of_ble_eq_true rfl) (Nat.le_of_ble_eq_true rfl) ?_
    have hg : ¬ gPh t k = true := by simp [gPh, c7]
    rw [if_neg hg, if_neg hg]
    exact ⟨rfl, rfl⟩
end PT4
