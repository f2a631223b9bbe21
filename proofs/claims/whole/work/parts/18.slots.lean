/-! written by wip/whole/pp.py out of wip/whole/src/18.slots.lean -/
theorem dX3_size_0 : decode cX3_size 0 = .ok (.aload_n 0, 1) := by decide +kernel
theorem dX3_size_1 : decode cX3_size 1 = .ok (.getfield 31, 3) := by decide +kernel
theorem dX3_size_4 : decode cX3_size 4 = .ok (.ireturn, 1) := by decide +kernel
theorem dX3_isSlot_0 : decode cX3_isSlot 0 = .ok (.iload_n 1, 1) := by decide +kernel
theorem dX3_isSlot_1 : decode cX3_isSlot 1 = .ok (.ifCond .lt 15, 3) := by decide +kernel
theorem dX3_isSlot_4 : decode cX3_isSlot 4 = .ok (.iload_n 1, 1) := by decide +kernel
theorem dX3_isSlot_5 : decode cX3_isSlot 5 = .ok (.aload_n 0, 1) := by decide +kernel
theorem dX3_isSlot_6 : decode cX3_isSlot 6 = .ok (.getfield 31, 3) := by decide +kernel
theorem dX3_isSlot_9 : decode cX3_isSlot 9 = .ok (.if_icmp .ge 7, 3) := by decide +kernel
theorem dX3_isSlot_12 : decode cX3_isSlot 12 = .ok (.iconst 1, 1) := by decide +kernel
theorem dX3_isSlot_13 : decode cX3_isSlot 13 = .ok (.goto 4, 3) := by decide +kernel
theorem dX3_isSlot_16 : decode cX3_isSlot 16 = .ok (.iconst 0, 1) := by decide +kernel
theorem dX3_isSlot_17 : decode cX3_isSlot 17 = .ok (.ireturn, 1) := by decide +kernel
theorem dX3_owner_0 : decode cX3_owner 0 = .ok (.aload_n 0, 1) := by decide +kernel
theorem dX3_owner_1 : decode cX3_owner 1 = .ok (.iload_n 1, 1) := by decide +kernel
theorem dX3_owner_2 : decode cX3_owner 2 = .ok (.invokevirtual 47, 3) := by decide +kernel
theorem dX3_owner_5 : decode cX3_owner 5 = .ok (.ifCond .eq 12, 3) := by decide +kernel
theorem dX3_owner_8 : decode cX3_owner 8 = .ok (.aload_n 0, 1) := by decide +kernel
theorem dX3_owner_9 : decode cX3_owner 9 = .ok (.getfield 9, 3) := by decide +kernel
theorem dX3_owner_12 : decode cX3_owner 12 = .ok (.iload_n 1, 1) := by decide +kernel
theorem dX3_owner_13 : decode cX3_owner 13 = .ok (.iaload, 1) := by decide +kernel
theorem dX3_owner_14 : decode cX3_owner 14 = .ok (.goto 4, 3) := by decide +kernel
theorem dX3_owner_17 : decode cX3_owner 17 = .ok (.iconst (-1), 1) := by decide +kernel
theorem dX3_owner_18 : decode cX3_owner 18 = .ok (.ireturn, 1) := by decide +kernel
theorem dX3_changedSlots_0 : decode cX3_changedSlots 0 = .ok (.aload_n 0, 1) := by decide +kernel
theorem dX3_changedSlots_1 : decode cX3_changedSlots 1 = .ok (.getfield 41, 3) := by decide +kernel
theorem dX3_changedSlots_4 : decode cX3_changedSlots 4 = .ok (.ireturn, 1) := by decide +kernel
theorem dX3_forcedSlots_0 : decode cX3_forcedSlots 0 = .ok (.aload_n 0, 1) := by decide +kernel
theorem dX3_forcedSlots_1 : decode cX3_forcedSlots 1 = .ok (.getfield 44, 3) := by decide +kernel
theorem dX3_forcedSlots_4 : decode cX3_forcedSlots 4 = .ok (.ireturn, 1) := by decide +kernel
theorem dX3_ownedBy_0 : decode cX3_ownedBy 0 = .ok (.iconst 0, 1) := by decide +kernel
theorem dX3_ownedBy_1 : decode cX3_ownedBy 1 = .ok (.istore_n 2, 1) := by decide +kernel
theorem dX3_ownedBy_2 : decode cX3_ownedBy 2 = .ok (.iconst 0, 1) := by decide +kernel
theorem dX3_ownedBy_3 : decode cX3_ownedBy 3 = .ok (.istore_n 3, 1) := by decide +kernel
theorem dX3_ownedBy_4 : decode cX3_ownedBy 4 = .ok (.iload_n 3, 1) := by decide +kernel
theorem dX3_ownedBy_5 : decode cX3_ownedBy 5 = .ok (.aload_n 0, 1) := by decide +kernel
theorem dX3_ownedBy_6 : decode cX3_ownedBy 6 = .ok (.getfield 31, 3) := by decide +kernel
theorem dX3_ownedBy_9 : decode cX3_ownedBy 9 = .ok (.if_icmp .ge 22, 3) := by decide +kernel
theorem dX3_ownedBy_12 : decode cX3_ownedBy 12 = .ok (.aload_n 0, 1) := by decide +kernel
theorem dX3_ownedBy_13 : decode cX3_ownedBy 13 = .ok (.getfield 9, 3) := by decide +kernel
theorem dX3_ownedBy_16 : decode cX3_ownedBy 16 = .ok (.iload_n 3, 1) := by decide +kernel
theorem dX3_ownedBy_17 : decode cX3_ownedBy 17 = .ok (.iaload, 1) := by decide +kernel
theorem dX3_ownedBy_18 : decode cX3_ownedBy 18 = .ok (.iload_n 1, 1) := by decide +kernel
theorem dX3_ownedBy_19 : decode cX3_ownedBy 19 = .ok (.if_icmp .ne 6, 3) := by decide +kernel
theorem dX3_ownedBy_22 : decode cX3_ownedBy 22 = .ok (.iinc 2 1, 3) := by decide +kernel
theorem dX3_ownedBy_25 : decode cX3_ownedBy 25 = .ok (.iinc 3 1, 3) := by decide +kernel
theorem dX3_ownedBy_28 : decode cX3_ownedBy 28 = .ok (.goto (-24), 3) := by decide +kernel
theorem dX3_ownedBy_31 : decode cX3_ownedBy 31 = .ok (.iload_n 2, 1) := by decide +kernel
theorem dX3_ownedBy_32 : decode cX3_ownedBy 32 = .ok (.ireturn, 1) := by decide +kernel
theorem dX3_slotOfKey_0 : decode cX3_slotOfKey 0 = .ok (.ldc2_w 51, 3) := by decide +kernel
theorem dX3_slotOfKey_3 : decode cX3_slotOfKey 3 = .ok (.iload_n 1, 1) := by decide +kernel
theorem dX3_slotOfKey_4 : decode cX3_slotOfKey 4 = .ok (.i2l, 1) := by decide +kernel
theorem dX3_slotOfKey_5 : decode cX3_slotOfKey 5 = .ok (.lmul, 1) := by decide +kernel
theorem dX3_slotOfKey_6 : decode cX3_slotOfKey 6 = .ok (.ldc2_w 53, 3) := by decide +kernel
theorem dX3_slotOfKey_9 : decode cX3_slotOfKey 9 = .ok (.ladd, 1) := by decide +kernel
theorem dX3_slotOfKey_10 : decode cX3_slotOfKey 10 = .ok (.ldc2_w 55, 3) := by decide +kernel
theorem dX3_slotOfKey_13 : decode cX3_slotOfKey 13 = .ok (.lrem, 1) := by decide +kernel
theorem dX3_slotOfKey_14 : decode cX3_slotOfKey 14 = .ok (.aload_n 0, 1) := by decide +kernel
theorem dX3_slotOfKey_15 : decode cX3_slotOfKey 15 = .ok (.getfield 31, 3) := by decide +kernel
theorem dX3_slotOfKey_18 : decode cX3_slotOfKey 18 = .ok (.invokestatic 57, 3) := by decide +kernel
theorem dX3_slotOfKey_21 : decode cX3_slotOfKey 21 = .ok (.ireturn, 1) := by decide +kernel
theorem dX3_preferredSlot_0 : decode cX3_preferredSlot 0 = .ok (.bipush 31, 2) := by decide +kernel
theorem dX3_preferredSlot_2 : decode cX3_preferredSlot 2 = .ok (.iload_n 1, 1) := by decide +kernel
theorem dX3_preferredSlot_3 : decode cX3_preferredSlot 3 = .ok (.imul, 1) := by decide +kernel
theorem dX3_preferredSlot_4 : decode cX3_preferredSlot 4 = .ok (.bipush 7, 2) := by decide +kernel
theorem dX3_preferredSlot_6 : decode cX3_preferredSlot 6 = .ok (.iadd, 1) := by decide +kernel
theorem dX3_preferredSlot_7 : decode cX3_preferredSlot 7 = .ok (.i2l, 1) := by decide +kernel
theorem dX3_preferredSlot_8 : decode cX3_preferredSlot 8 = .ok (.aload_n 0, 1) := by decide +kernel
theorem dX3_preferredSlot_9 : decode cX3_preferredSlot 9 = .ok (.getfield 31, 3) := by decide +kernel
theorem dX3_preferredSlot_12 : decode cX3_preferredSlot 12 = .ok (.invokestatic 57, 3) := by decide +kernel
theorem dX3_preferredSlot_15 : decode cX3_preferredSlot 15 = .ok (.istore_n 3, 1) := by decide +kernel
theorem dX3_preferredSlot_16 : decode cX3_preferredSlot 16 = .ok (.bipush 17, 2) := by decide +kernel
theorem dX3_preferredSlot_18 : decode cX3_preferredSlot 18 = .ok (.iload_n 1, 1) := by decide +kernel
theorem dX3_preferredSlot_19 : decode cX3_preferredSlot 19 = .ok (.imul, 1) := by decide +kernel
theorem dX3_preferredSlot_20 : decode cX3_preferredSlot 20 = .ok (.iconst 3, 1) := by decide +kernel
theorem dX3_preferredSlot_21 : decode cX3_preferredSlot 21 = .ok (.iadd, 1) := by decide +kernel
theorem dX3_preferredSlot_22 : decode cX3_preferredSlot 22 = .ok (.i2l, 1) := by decide +kernel
theorem dX3_preferredSlot_23 : decode cX3_preferredSlot 23 = .ok (.aload_n 0, 1) := by decide +kernel
theorem dX3_preferredSlot_24 : decode cX3_preferredSlot 24 = .ok (.getfield 31, 3) := by decide +kernel
theorem dX3_preferredSlot_27 : decode cX3_preferredSlot 27 = .ok (.iconst 1, 1) := by decide +kernel
theorem dX3_preferredSlot_28 : decode cX3_preferredSlot 28 = .ok (.isub, 1) := by decide +kernel
theorem dX3_preferredSlot_29 : decode cX3_preferredSlot 29 = .ok (.invokestatic 57, 3) := by decide +kernel
theorem dX3_preferredSlot_32 : decode cX3_preferredSlot 32 = .ok (.iconst 1, 1) := by decide +kernel
theorem dX3_preferredSlot_33 : decode cX3_preferredSlot 33 = .ok (.iadd, 1) := by decide +kernel
theorem dX3_preferredSlot_34 : decode cX3_preferredSlot 34 = .ok (.istore 4, 2) := by decide +kernel
theorem dX3_preferredSlot_36 : decode cX3_preferredSlot 36 = .ok (.iload_n 3, 1) := by decide +kernel
theorem dX3_preferredSlot_37 : decode cX3_preferredSlot 37 = .ok (.iload_n 2, 1) := by decide +kernel
theorem dX3_preferredSlot_38 : decode cX3_preferredSlot 38 = .ok (.iload 4, 2) := by decide +kernel
theorem dX3_preferredSlot_40 : decode cX3_preferredSlot 40 = .ok (.imul, 1) := by decide +kernel
theorem dX3_preferredSlot_41 : decode cX3_preferredSlot 41 = .ok (.iadd, 1) := by decide +kernel
theorem dX3_preferredSlot_42 : decode cX3_preferredSlot 42 = .ok (.i2l, 1) := by decide +kernel
theorem dX3_preferredSlot_43 : decode cX3_preferredSlot 43 = .ok (.aload_n 0, 1) := by decide +kernel
theorem dX3_preferredSlot_44 : decode cX3_preferredSlot 44 = .ok (.getfield 31, 3) := by decide +kernel
theorem dX3_preferredSlot_47 : decode cX3_preferredSlot 47 = .ok (.invokestatic 57, 3) := by decide +kernel
theorem dX3_preferredSlot_50 : decode cX3_preferredSlot 50 = .ok (.ireturn, 1) := by decide +kernel
theorem dX3_countChanged_0 : decode cX3_countChanged 0 = .ok (.iconst 0, 1) := by decide +kernel
theorem dX3_countChanged_1 : decode cX3_countChanged 1 = .ok (.istore_n 1, 1) := by decide +kernel
theorem dX3_countChanged_2 : decode cX3_countChanged 2 = .ok (.iconst 0, 1) := by decide +kernel
theorem dX3_countChanged_3 : decode cX3_countChanged 3 = .ok (.istore_n 2, 1) := by decide +kernel
theorem dX3_countChanged_4 : decode cX3_countChanged 4 = .ok (.iload_n 2, 1) := by decide +kernel
theorem dX3_countChanged_5 : decode cX3_countChanged 5 = .ok (.aload_n 0, 1) := by decide +kernel
theorem dX3_countChanged_6 : decode cX3_countChanged 6 = .ok (.getfield 31, 3) := by decide +kernel
theorem dX3_countChanged_9 : decode cX3_countChanged 9 = .ok (.if_icmp .ge 27, 3) := by decide +kernel
theorem dX3_countChanged_12 : decode cX3_countChanged 12 = .ok (.aload_n 0, 1) := by decide +kernel
theorem dX3_countChanged_13 : decode cX3_countChanged 13 = .ok (.getfield 9, 3) := by decide +kernel
theorem dX3_countChanged_16 : decode cX3_countChanged 16 = .ok (.iload_n 2, 1) := by decide +kernel
theorem dX3_countChanged_17 : decode cX3_countChanged 17 = .ok (.iaload, 1) := by decide +kernel
theorem dX3_countChanged_18 : decode cX3_countChanged 18 = .ok (.aload_n 0, 1) := by decide +kernel
theorem dX3_countChanged_19 : decode cX3_countChanged 19 = .ok (.getfield 15, 3) := by decide +kernel
theorem dX3_countChanged_22 : decode cX3_countChanged 22 = .ok (.iload_n 2, 1) := by decide +kernel
theorem dX3_countChanged_23 : decode cX3_countChanged 23 = .ok (.iaload, 1) := by decide +kernel
theorem dX3_countChanged_24 : decode cX3_countChanged 24 = .ok (.if_icmp .eq 6, 3) := by decide +kernel
theorem dX3_countChanged_27 : decode cX3_countChanged 27 = .ok (.iinc 1 1, 3) := by decide +kernel
theorem dX3_countChanged_30 : decode cX3_countChanged 30 = .ok (.iinc 2 1, 3) := by decide +kernel
theorem dX3_countChanged_33 : decode cX3_countChanged 33 = .ok (.goto (-29), 3) := by decide +kernel
theorem dX3_countChanged_36 : decode cX3_countChanged 36 = .ok (.iload_n 1, 1) := by decide +kernel
theorem dX3_countChanged_37 : decode cX3_countChanged 37 = .ok (.ireturn, 1) := by decide +kernel
theorem dX3_countForced_0 : decode cX3_countForced 0 = .ok (.iconst 0, 1) := by decide +kernel
theorem dX3_countForced_1 : decode cX3_countForced 1 = .ok (.istore_n 2, 1) := by decide +kernel
theorem dX3_countForced_2 : decode cX3_countForced 2 = .ok (.iconst 0, 1) := by decide +kernel
theorem dX3_countForced_3 : decode cX3_countForced 3 = .ok (.istore_n 3, 1) := by decide +kernel
theorem dX3_countForced_4 : decode cX3_countForced 4 = .ok (.iload_n 3, 1) := by decide +kernel
theorem dX3_countForced_5 : decode cX3_countForced 5 = .ok (.aload_n 0, 1) := by decide +kernel
theorem dX3_countForced_6 : decode cX3_countForced 6 = .ok (.getfield 31, 3) := by decide +kernel
theorem dX3_countForced_9 : decode cX3_countForced 9 = .ok (.if_icmp .ge 25, 3) := by decide +kernel
theorem dX3_countForced_12 : decode cX3_countForced 12 = .ok (.aload_n 1, 1) := by decide +kernel
theorem dX3_countForced_13 : decode cX3_countForced 13 = .ok (.aload_n 0, 1) := by decide +kernel
theorem dX3_countForced_14 : decode cX3_countForced 14 = .ok (.getfield 9, 3) := by decide +kernel
theorem dX3_countForced_17 : decode cX3_countForced 17 = .ok (.iload_n 3, 1) := by decide +kernel
theorem dX3_countForced_18 : decode cX3_countForced 18 = .ok (.iaload, 1) := by decide +kernel
theorem dX3_countForced_19 : decode cX3_countForced 19 = .ok (.invokevirtual 73, 3) := by decide +kernel
theorem dX3_countForced_22 : decode cX3_countForced 22 = .ok (.ifCond .ne 6, 3) := by decide +kernel
theorem dX3_countForced_25 : decode cX3_countForced 25 = .ok (.iinc 2 1, 3) := by decide +kernel
theorem dX3_countForced_28 : decode cX3_countForced 28 = .ok (.iinc 3 1, 3) := by decide +kernel
theorem dX3_countForced_31 : decode cX3_countForced 31 = .ok (.goto (-27), 3) := by decide +kernel
theorem dX3_countForced_34 : decode cX3_countForced 34 = .ok (.iload_n 2, 1) := by decide +kernel
theorem dX3_countForced_35 : decode cX3_countForced 35 = .ok (.ireturn, 1) := by decide +kernel
theorem dX3_hasTurn_0 : decode cX3_hasTurn 0 = .ok (.iload_n 2, 1) := by decide +kernel
theorem dX3_hasTurn_1 : decode cX3_hasTurn 1 = .ok (.ifCond .le 22, 3) := by decide +kernel
theorem dX3_hasTurn_4 : decode cX3_hasTurn 4 = .ok (.iload_n 0, 1) := by decide +kernel
theorem dX3_hasTurn_5 : decode cX3_hasTurn 5 = .ok (.iload_n 1, 1) := by decide +kernel
theorem dX3_hasTurn_6 : decode cX3_hasTurn 6 = .ok (.imul, 1) := by decide +kernel
theorem dX3_hasTurn_7 : decode cX3_hasTurn 7 = .ok (.iload_n 2, 1) := by decide +kernel
theorem dX3_hasTurn_8 : decode cX3_hasTurn 8 = .ok (.idiv, 1) := by decide +kernel
theorem dX3_hasTurn_9 : decode cX3_hasTurn 9 = .ok (.iload_n 0, 1) := by decide +kernel
theorem dX3_hasTurn_10 : decode cX3_hasTurn 10 = .ok (.iconst 1, 1) := by decide +kernel
theorem dX3_hasTurn_11 : decode cX3_hasTurn 11 = .ok (.isub, 1) := by decide +kernel
theorem dX3_hasTurn_12 : decode cX3_hasTurn 12 = .ok (.iload_n 1, 1) := by decide +kernel
theorem dX3_hasTurn_13 : decode cX3_hasTurn 13 = .ok (.imul, 1) := by decide +kernel
theorem dX3_hasTurn_14 : decode cX3_hasTurn 14 = .ok (.iload_n 2, 1) := by decide +kernel
theorem dX3_hasTurn_15 : decode cX3_hasTurn 15 = .ok (.idiv, 1) := by decide +kernel
theorem dX3_hasTurn_16 : decode cX3_hasTurn 16 = .ok (.if_icmp .le 7, 3) := by decide +kernel
theorem dX3_hasTurn_19 : decode cX3_hasTurn 19 = .ok (.iconst 1, 1) := by decide +kernel
theorem dX3_hasTurn_20 : decode cX3_hasTurn 20 = .ok (.goto 4, 3) := by decide +kernel
theorem dX3_hasTurn_23 : decode cX3_hasTurn 23 = .ok (.iconst 0, 1) := by decide +kernel
theorem dX3_hasTurn_24 : decode cX3_hasTurn 24 = .ok (.ireturn, 1) := by decide +kernel
theorem dX6_remainder_0 : decode cX6_remainder 0 = .ok (.iload_n 2, 1) := by decide +kernel
theorem dX6_remainder_1 : decode cX6_remainder 1 = .ok (.ifCond .le 11, 3) := by decide +kernel
theorem dX6_remainder_4 : decode cX6_remainder 4 = .ok (.lload_n 0, 1) := by decide +kernel
theorem dX6_remainder_5 : decode cX6_remainder 5 = .ok (.iload_n 2, 1) := by decide +kernel
theorem dX6_remainder_6 : decode cX6_remainder 6 = .ok (.i2l, 1) := by decide +kernel
theorem dX6_remainder_7 : decode cX6_remainder 7 = .ok (.lrem, 1) := by decide +kernel
theorem dX6_remainder_8 : decode cX6_remainder 8 = .ok (.l2i, 1) := by decide +kernel
theorem dX6_remainder_9 : decode cX6_remainder 9 = .ok (.goto 4, 3) := by decide +kernel
theorem dX6_remainder_12 : decode cX6_remainder 12 = .ok (.iconst 0, 1) := by decide +kernel
theorem dX6_remainder_13 : decode cX6_remainder 13 = .ok (.ireturn, 1) := by decide +kernel
theorem k_X3_owner_47 : aKV mX3_owner mX3_isSlot 47 1 3 := ⟨cb_X3_isSlot, rfl, ml_X3_47, iv_X3_isSlot, sl_X3_isSlot, ⟨_, _, rfl⟩, ⟨Nat.le_of_ble_eq_true rfl, Nat.le_of_ble_eq_true rfl⟩⟩
theorem k_X3_countForced_73 : aKV mX3_countForced mX0_isUp 73 1 0 := ⟨cb_X0_isUp, rfl, ml_X3_73, iv_X0_isUp, sl_X0_isUp, ⟨_, _, rfl⟩, ⟨Nat.le_of_ble_eq_true rfl, Nat.le_of_ble_eq_true rfl⟩⟩
theorem k_X3_slotOfKey_57 : aKSN mX3_slotOfKey mX6_remainder 57 2 := ⟨cb_X6_remainder, rfl, ⟨_, mn_X3_57⟩, st_X6_remainder, ⟨Nat.le_of_ble_eq_true rfl, Nat.le_of_ble_eq_true rfl⟩⟩
theorem k_X3_preferredSlot_57 : aKSN mX3_preferredSlot mX6_remainder 57 2 := ⟨cb_X6_remainder, rfl, ⟨_, mn_X3_57⟩, st_X6_remainder, ⟨Nat.le_of_ble_eq_true rfl, Nat.le_of_ble_eq_true rfl⟩⟩
/-! ===== SlotTable ===== -/
abbrev aSl (M : Nat) (ow dr tr : Nat → Int32) (ch fo : Int32) : List aCell := [aOb 3 [.int (nI M), .ref 1, .ref 2, .ref 3, .int ch, .int fo], aIa 61 ow, aIa 61 dr, aIa 10 tr]
abbrev aSF (M : Nat) (ow dr tr : Nat → Int32) (ch fo : Int32) (nm wt up : Nat → Int32) (ld : Nat → Int64) : List aCell := [aOb 3 [.int (nI M), .ref 1, .ref 2, .ref 3, .int ch, .int fo], aIa 61 ow, aIa 61 dr, aIa 10 tr, aOb 0 [.ref 5, .ref 6, .ref 7, .ref 8], aIa 10 nm, aIa 10 wt, aBa 10 up, aLa 10 ld]
abbrev rs9 : List Nat := [0, 1, 2, 3, 4, 5, 6, 7, 8]
/-- preference j of the server with name n -/
def pPf (M n j : Nat) : Nat := ((31 * n + 7) % M + j * ((17 * n + 3) % (M - 1) + 1)) % M
theorem pPf_lt {M n j : Nat} (h : 0 < M) : pPf M n j < M := Nat.mod_lt _ h
def pTn (r w g : Nat) : Bool := decide (0 < g) && decide ((r - 1) * w / g < r * w / g)
def sSl (M : Nat) (s : Int32) : Bool := decide (¬ s < 0) && decide (¬ nI M ≤ s)
theorem sSl_in {M : Nat} (hM : M ≤ 61) {s : Int32} (h : sSl M s = true) : vp_in s 61 := by
  simp only [sSl, Bool.and_eq_true, decide_eq_true_eq] at h
  obtain ⟨j, hj, rfl⟩ := nI_of h.1
  refine vp_in_nI ?_ (by decide)
  rcases Nat.lt_or_ge j 61 with q | q
  · exact q
  · exact absurd (nI_le (a := M) (by omega) hj) h.2
theorem sSl_j {M j : Nat} (h : j < M) (hM : M ≤ 61) : sSl M (nI j) = true := by
  simp only [sSl, Bool.and_eq_true, decide_eq_true_eq]
  exact ⟨nI_pos (by omega), nI_ge h (by omega)⟩
theorem in61 {j : Nat} (h : j < 61) : vp_in (nI j) 61 := vp_in_nI h (by decide)
theorem cl61 {j : Nat} (h : j < 61) : (nI j).toNatClampNeg = j := nI_clamp (by omega)
section SLT
variable {l : Launch} {X : aX} {M : Nat} {ow dr tr : Nat → Int32} {ch fo : Int32}
theorem c_X6_remainder (a b : Nat) (ha : a < 2 ^ 31) (h0 : 0 < b) (hb : b < 2 ^ 31) : aRd l X mX6_remainder [] [.long (lN a), .int (nI b)] [] (.int (nI (a % b))) := by
  refine aMt.of (by decide) rfl (Nat.le_of_ble_eq_true rfl) ?_
  have hne : ¬ (nI b).toInt64 = 0 := by
    rw [nI_l hb]
    intro e
    have := (lN_eq hb (show 0 < 2 ^ 31 by decide)).mp e
    omega
  refine a_iload_n dX6_remainder_0 rfl ?_
  refine a_if_le 12 dX6_remainder_1 (by decide) (fun z => absurd z (nI_nle h0 hb)) (fun _ => ?_)
  refine a_lload_n dX6_remainder_4 rfl ?_
  refine a_iload_n dX6_remainder_5 rfl ?_
  refine a_i2l dX6_remainder_6 ?_
  refine a_lrem dX6_remainder_7 (by assumption) ?_
  refine a_l2i dX6_remainder_8 ?_
  refine a_goto 13 dX6_remainder_9 (by decide) ?_
  refine a_iret rfl dX6_remainder_13 (by decide) (by decide) ?_
  refine ⟨?_, rfl⟩
  rw [nI_l hb, pk_lRem (by omega) h0 (by omega), lN_i]
theorem c_X3_size : aRd l X mX3_size rs4 [.ref 0] (aSl M ow dr tr ch fo) (.int (nI M)) := by
  refine aMt.of (by decide) rfl (Nat.le_of_ble_eq_true rfl) ?_
  refine a_aload_n dX3_size_0 rfl ?_
  refine a_get fl_X3_31 dX3_size_1 rfl rfl ?_
  refine a_iret rfl dX3_size_4 (by decide) (by decide) ?_
  exact ⟨rfl, rfl⟩
theorem c_X3_changedSlots : aRd l X mX3_changedSlots rs4 [.ref 0] (aSl M ow dr tr ch fo) (.int ch) := by
  refine aMt.of (by decide) rfl (Nat.le_of_ble_eq_true rfl) ?_
  refine a_aload_n dX3_changedSlots_0 rfl ?_
  refine a_get fl_X3_41 dX3_changedSlots_1 rfl rfl ?_
  refine a_iret rfl dX3_changedSlots_4 (by decide) (by decide) ?_
  exact ⟨rfl, rfl⟩
theorem c_X3_forcedSlots : aRd l X mX3_forcedSlots rs4 [.ref 0] (aSl M ow dr tr ch fo) (.int fo) := by
  refine aMt.of (by decide) rfl (Nat.le_of_ble_eq_true rfl) ?_
  refine a_aload_n dX3_forcedSlots_0 rfl ?_
  refine a_get fl_X3_44 dX3_forcedSlots_1 rfl rfl ?_
  refine a_iret rfl dX3_forcedSlots_4 (by decide) (by decide) ?_
  exact ⟨rfl, rfl⟩
theorem c_X3_isSlot (s : Int32) : aRd l X mX3_isSlot rs4 [.ref 0, .int s] (aSl M ow dr tr ch fo) (.int (bI (sSl M s))) := by
  refine aMt.of (by decide) rfl (Nat.le_of_ble_eq_true rfl) ?_
  refine a_iload_n dX3_isSlot_0 rfl ?_
  refine a_if_lt 16 dX3_isSlot_1 (by decide) (fun c1 => ?_) (fun c1 => ?_)
  · refine a_iconst 0 dX3_isSlot_16 (by decide) ?_
    refine a_zret rfl rfl dX3_isSlot_17 (by decide) (by decide) ?_
    exact ⟨by simp [sSl, c1, bI], rfl⟩
  · refine a_iload_n dX3_isSlot_4 rfl ?_
    refine a_aload_n dX3_isSlot_5 rfl ?_
    refine a_get fl_X3_31 dX3_isSlot_6 rfl rfl ?_
    refine a_icmp_ge 16 dX3_isSlot_9 (by decide) (fun c9 => ?_) (fun c9 => ?_)
    · refine a_iconst 0 dX3_isSlot_16 (by decide) ?_
      refine a_zret rfl rfl dX3_isSlot_17 (by decide) (by decide) ?_
      exact ⟨by simp [sSl, c1, c9, bI], rfl⟩
    · refine a_iconst 1 dX3_isSlot_12 (by decide) ?_
      refine a_goto 17 dX3_isSlot_13 (by decide) ?_
      refine a_zret rfl rfl dX3_isSlot_17 (by decide) (by decide) ?_
      exact ⟨by simp [sSl, c1, c9, bI], rfl⟩
theorem c_X3_owner (hM : M ≤ 61) (s : Int32) : aRd l X mX3_owner rs4 [.ref 0, .int s] (aSl M ow dr tr ch fo) (.int (if sSl M s then ow s.toNatClampNeg else -1)) := by
  refine aMt.of (by decide) rfl (Nat.le_of_ble_eq_true rfl) ?_
  refine a_aload_n dX3_owner_0 rfl ?_
  refine a_iload_n dX3_owner_1 rfl ?_
  refine a_ViR [0, 1, 2, 3] k_X3_owner_47 (c_X3_isSlot (M := M) (ow := ow) (dr := dr) (tr := tr) (ch := ch) (fo := fo) s) dX3_owner_2 rfl rfl rfl rfl rfl rfl (Nat.le_of_ble_eq_true rfl) ⟨Nat.le_of_ble_eq_true rfl, Nat.le_of_ble_eq_true rfl⟩ ⟨rfl, rfl⟩ ?_
  refine a_if_eq 17 dX3_owner_5 (by decide) (fun c5 => ?_) (fun c5 => ?_)
  · refine a_iconst (-1) dX3_owner_17 (by decide) ?_
    refine a_iret rfl dX3_owner_18 (by decide) (by decide) ?_
    exact ⟨by simp [bI_0 c5], rfl⟩
  · refine a_aload_n dX3_owner_8 rfl ?_
    refine a_get fl_X3_9 dX3_owner_9 rfl rfl ?_
    refine a_iload_n dX3_owner_12 rfl ?_
    refine a_iald dX3_owner_13 rfl (sSl_in hM (bI_1 c5)) ?_
    refine a_goto 18 dX3_owner_14 (by decide) ?_
    refine a_iret rfl dX3_owner_18 (by decide) (by decide) ?_
    exact ⟨by simp [bI_1 c5], rfl⟩
def sOb (ow : Nat → Int32) (M : Nat) (s : Int32) : Int32 := aLp (fun j c => if ow j = s then c + 1 else c) M 0 0
theorem c_X3_ownedBy (hM : M ≤ 61) (s : Int32) : aRd l X mX3_ownedBy rs4 [.ref 0, .int s] (aSl M ow dr tr ch fo) (.int (sOb ow M s)) := by
  refine aMt.of (by decide) rfl (Nat.le_of_ble_eq_true rfl) ?_
  generalize hr : sOb ow M s = r
  refine a_iconst 0 dX3_ownedBy_0 (by decide) ?_
  refine a_istore_n dX3_ownedBy_1 (by decide) rfl ?_
  refine a_iconst 0 dX3_ownedBy_2 (by decide) ?_
  refine a_istore_n dX3_ownedBy_3 (by decide) rfl ?_
  have lp : ∀ (k j : Nat) (a : Int32), j + k = M → aLp (fun j c => if ow j = s then c + 1 else c) k j a = r → aJ l X mX3_ownedBy (aEd X mX3_ownedBy rs4 (fun o h' => o = .inl (some (.int r)) ∧ h' = aSl M ow dr tr ch fo)) 0 0 4 [.ref 0, .int s, .int a, .int (nI j)] [] (aSl M ow dr tr ch fo) := by
    intro k
    induction k with
    | zero =>
      intro j a hj hq
      obtain rfl : j = M := by omega
      refine a_iload_n dX3_ownedBy_4 rfl ?_
      refine a_aload_n dX3_ownedBy_5 rfl ?_
      refine a_get fl_X3_31 dX3_ownedBy_6 rfl rfl ?_
      refine a_icmp_ge 31 dX3_ownedBy_9 (by decide) (fun _ => ?_) (fun z => absurd (nI_le (Nat.le_refl j) (by omega)) z)
      refine a_iload_n dX3_ownedBy_31 rfl ?_
      refine a_iret rfl dX3_ownedBy_32 (by decide) (by decide) ?_
      exact ⟨by rw [← hq]; rfl, rfl⟩
    | succ k ih =>
      intro j a hj hq
      refine a_iload_n dX3_ownedBy_4 rfl ?_
      refine a_aload_n dX3_ownedBy_5 rfl ?_
      refine a_get fl_X3_31 dX3_ownedBy_6 rfl rfl ?_
      refine a_icmp_ge 31 dX3_ownedBy_9 (by decide) (fun z => absurd z (nI_ge (by omega) (by omega))) (fun _ => ?_)
      refine a_aload_n dX3_ownedBy_12 rfl ?_
      refine a_get fl_X3_9 dX3_ownedBy_13 rfl rfl ?_
      refine a_iload_n dX3_ownedBy_16 rfl ?_
      refine a_iald dX3_ownedBy_17 rfl (in61 (by omega)) ?_
      refine a_iload_n dX3_ownedBy_18 rfl ?_
      refine a_icmp_ne 25 dX3_ownedBy_19 (by decide) (fun c19 => ?_) (fun c19 => ?_)
      · rw [cl61 (by omega)] at c19
        refine a_iinc (nI (j + 1)) dX3_ownedBy_25 rfl (nI_1 _) (by decide) rfl ?_
        refine a_goto 4 dX3_ownedBy_28 (by decide) ?_
        exact ih (j + 1) a (by omega) (by rw [← hq]; simp [aLp, c19])
      · rw [cl61 (by omega)] at c19
        refine a_iinc (a + 1) dX3_ownedBy_22 rfl rfl (by decide) rfl ?_
        refine a_iinc (nI (j + 1)) dX3_ownedBy_25 rfl (nI_1 _) (by decide) rfl ?_
        refine a_goto 4 dX3_ownedBy_28 (by decide) ?_
        exact ih (j + 1) (a + 1) (by omega) (by rw [← hq]; simp [aLp, c19])
  exact lp M 0 0 (by omega) hr
def sCc (ow dr : Nat → Int32) (M : Nat) : Int32 := aLp (fun j c => if ow j = dr j then c else c + 1) M 0 0
theorem c_X3_countChanged (hM : M ≤ 61) : aRd l X mX3_countChanged rs4 [.ref 0] (aSl M ow dr tr ch fo) (.int (sCc ow dr M)) := by
  refine aMt.of (by decide) rfl (Nat.le_of_ble_eq_true rfl) ?_
  generalize hr : sCc ow dr M = r
  refine a_iconst 0 dX3_countChanged_0 (by decide) ?_
  refine a_istore_n dX3_countChanged_1 (by decide) rfl ?_
  refine a_iconst 0 dX3_countChanged_2 (by decide) ?_
  refine a_istore_n dX3_countChanged_3 (by decide) rfl ?_
  have lp : ∀ (k j : Nat) (a : Int32), j + k = M → aLp (fun j c => if ow j = dr j then c else c + 1) k j a = r → aJ l X mX3_countChanged (aEd X mX3_countChanged rs4 (fun o h' => o = .inl (some (.int r)) ∧ h' = aSl M ow dr tr ch fo)) 0 0 4 [.ref 0, .int a, .int (nI j)] [] (aSl M ow dr tr ch fo) := by
    intro k
    induction k with
    | zero =>
      intro j a hj hq
      obtain rfl : j = M := by omega
      refine a_iload_n dX3_countChanged_4 rfl ?_
      refine a_aload_n dX3_countChanged_5 rfl ?_
      refine a_get fl_X3_31 dX3_countChanged_6 rfl rfl ?_
      refine a_icmp_ge 36 dX3_countChanged_9 (by decide) (fun _ => ?_) (fun z => absurd (nI_le (Nat.le_refl j) (by omega)) z)
      refine a_iload_n dX3_countChanged_36 rfl ?_
      refine a_iret rfl dX3_countChanged_37 (by decide) (by decide) ?_
      exact ⟨by rw [← hq]; rfl, rfl⟩
    | succ k ih =>
      intro j a hj hq
      have hi := in61 (show j < 61 by omega)
      refine a_iload_n dX3_countChanged_4 rfl ?_
      refine a_aload_n dX3_countChanged_5 rfl ?_
      refine a_get fl_X3_31 dX3_countChanged_6 rfl rfl ?_
      refine a_icmp_ge 36 dX3_countChanged_9 (by decide) (fun z => absurd z (nI_ge (by omega) (by omega))) (fun _ => ?_)
      refine a_aload_n dX3_countChanged_12 rfl ?_
      refine a_get fl_X3_9 dX3_countChanged_13 rfl rfl ?_
      refine a_iload_n dX3_countChanged_16 rfl ?_
      refine a_iald dX3_countChanged_17 rfl (by assumption) ?_
      refine a_aload_n dX3_countChanged_18 rfl ?_
      refine a_get fl_X3_15 dX3_countChanged_19 rfl rfl ?_
      refine a_iload_n dX3_countChanged_22 rfl ?_
      refine a_iald dX3_countChanged_23 rfl (by assumption) ?_
      refine a_icmp_eq 30 dX3_countChanged_24 (by decide) (fun c24 => ?_) (fun c24 => ?_)
      · rw [cl61 (by omega)] at c24
        refine a_iinc (nI (j + 1)) dX3_countChanged_30 rfl (nI_1 _) (by decide) rfl ?_
        refine a_goto 4 dX3_countChanged_33 (by decide) ?_
        exact ih (j + 1) a (by omega) (by rw [← hq]; simp [aLp, c24])
      · rw [cl61 (by omega)] at c24
        refine a_iinc (a + 1) dX3_countChanged_27 rfl rfl (by decide) rfl ?_
        refine a_iinc (nI (j + 1)) dX3_countChanged_30 rfl (nI_1 _) (by decide) rfl ?_
        refine a_goto 4 dX3_countChanged_33 (by decide) ?_
        exact ih (j + 1) (a + 1) (by omega) (by rw [← hq]; simp [aLp, c24])
  exact lp M 0 0 (by omega) hr
def sCf (ow nm up : Nat → Int32) (M : Nat) : Int32 := aLp (fun j c => if fUp nm up (ow j) then c else c + 1) M 0 0
theorem c_X3_countForced {nm wt up : Nat → Int32} {ld : Nat → Int64} (hM : M ≤ 61) : aRd l X mX3_countForced rs9 [.ref 0, .ref 4] (aSF M ow dr tr ch fo nm wt up ld) (.int (sCf ow nm up M)) := by
  refine aMt.of (by decide) rfl (Nat.le_of_ble_eq_true rfl) ?_
  generalize hr : sCf ow nm up M = r
  refine a_iconst 0 dX3_countForced_0 (by decide) ?_
  refine a_istore_n dX3_countForced_1 (by decide) rfl ?_
  refine a_iconst 0 dX3_countForced_2 (by decide) ?_
  refine a_istore_n dX3_countForced_3 (by decide) rfl ?_
  have lp : ∀ (k j : Nat) (a : Int32), j + k = M → aLp (fun j c => if fUp nm up (ow j) then c else c + 1) k j a = r → aJ l X mX3_countForced (aEd X mX3_countForced rs9 (fun o h' => o = .inl (some (.int r)) ∧ h' = aSF M ow dr tr ch fo nm wt up ld)) 0 0 4 [.ref 0, .ref 4, .int a, .int (nI j)] [] (aSF M ow dr tr ch fo nm wt up ld) := by
    intro k
    induction k with
    | zero =>
      intro j a hj hq
      obtain rfl : j = M := by omega
      refine a_iload_n dX3_countForced_4 rfl ?_
      refine a_aload_n dX3_countForced_5 rfl ?_
      refine a_get fl_X3_31 dX3_countForced_6 rfl rfl ?_
      refine a_icmp_ge 34 dX3_countForced_9 (by decide) (fun _ => ?_) (fun z => absurd (nI_le (Nat.le_refl j) (by omega)) z)
      refine a_iload_n dX3_countForced_34 rfl ?_
      refine a_iret rfl dX3_countForced_35 (by decide) (by decide) ?_
      exact ⟨by rw [← hq]; rfl, rfl⟩
    | succ k ih =>
      intro j a hj hq
      have hi := in61 (show j < 61 by omega)
      refine a_iload_n dX3_countForced_4 rfl ?_
      refine a_aload_n dX3_countForced_5 rfl ?_
      refine a_get fl_X3_31 dX3_countForced_6 rfl rfl ?_
      refine a_icmp_ge 34 dX3_countForced_9 (by decide) (fun z => absurd z (nI_ge (by omega) (by omega))) (fun _ => ?_)
      refine a_aload_n dX3_countForced_12 rfl ?_
      refine a_aload_n dX3_countForced_13 rfl ?_
      refine a_get fl_X3_9 dX3_countForced_14 rfl rfl ?_
      refine a_iload_n dX3_countForced_17 rfl ?_
      refine a_iald dX3_countForced_18 rfl (by assumption) ?_
      rw [cl61 (by omega)]
      refine a_ViR [4, 5, 6, 7, 8] k_X3_countForced_73 (c_X0_isUp (nm := nm) (wt := wt) (up := up) (ld := ld) (ow j)) dX3_countForced_19 rfl rfl rfl rfl rfl rfl (Nat.le_of_ble_eq_true rfl) ⟨Nat.le_of_ble_eq_true rfl, Nat.le_of_ble_eq_true rfl⟩ ⟨rfl, rfl⟩ ?_
      refine a_if_ne 28 dX3_countForced_22 (by decide) (fun c22 => ?_) (fun c22 => ?_)
      · refine a_iinc (nI (j + 1)) dX3_countForced_28 rfl (nI_1 _) (by decide) rfl ?_
        refine a_goto 4 dX3_countForced_31 (by decide) ?_
        exact ih (j + 1) a (by omega) (by rw [← hq]; simp [aLp, bI_1 c22])
      · refine a_iinc (a + 1) dX3_countForced_25 rfl rfl (by decide) rfl ?_
        refine a_iinc (nI (j + 1)) dX3_countForced_28 rfl (nI_1 _) (by decide) rfl ?_
        refine a_goto 4 dX3_countForced_31 (by decide) ?_
        exact ih (j + 1) (a + 1) (by omega) (by rw [← hq]; simp [aLp, bI_0 c22])
  exact lp M 0 0 (by omega) hr
def sKy (M k : Nat) : Nat := (40503 * k + 12345) % 65536 % M
theorem c_X3_slotOfKey (h0 : 0 < M) (hM : M ≤ 61) (k : Nat) (hk : k ≤ 99999) : aRd l X mX3_slotOfKey rs4 [.ref 0, .int (nI k)] (aSl M ow dr tr ch fo) (.int (nI (sKy M k))) := by
  refine aMt.of (by decide) rfl (Nat.le_of_ble_eq_true rfl) ?_
  refine a_ldc2 dX3_slotOfKey_0 cn_X3_51 ?_
  refine a_iload_n dX3_slotOfKey_3 rfl ?_
  refine a_i2l dX3_slotOfKey_4 ?_
  refine a_lmul dX3_slotOfKey_5 ?_
  refine a_ldc2 dX3_slotOfKey_6 cn_X3_53 ?_
  refine a_ladd dX3_slotOfKey_9 ?_
  refine a_ldc2 dX3_slotOfKey_10 cn_X3_55 ?_
  refine a_lrem dX3_slotOfKey_13 (by decide) ?_
  have e : (40503 * (nI k).toInt64 + 12345 - (40503 * (nI k).toInt64 + 12345) / 65536 * 65536 : Int64) = lN ((40503 * k + 12345) % 65536) := by
    have e1 : (40503 * (nI k).toInt64 + 12345 : Int64) = lN (40503 * k + 12345) := by
      rw [nI_l (by omega), ← lN_add, ← lN_mul]
      rfl
    rw [e1]
    exact pk_lRem (a := 40503 * k + 12345) (b := 65536) (by omega) (by decide) (by decide)
  rw [e]
  refine a_aload_n dX3_slotOfKey_14 rfl ?_
  refine a_get fl_X3_31 dX3_slotOfKey_15 rfl rfl ?_
  refine a_SNiR [] k_X3_slotOfKey_57 (c_X6_remainder ((40503 * k + 12345) % 65536) M (by omega) h0 (by omega)) dX3_slotOfKey_18 rfl rfl rfl rfl rfl (Nat.le_of_ble_eq_true rfl) ⟨Nat.le_of_ble_eq_true rfl, Nat.le_of_ble_eq_true rfl⟩ ⟨rfl, rfl⟩ ?_
  refine a_iret rfl dX3_slotOfKey_21 (by decide) (by decide) ?_
  exact ⟨rfl, rfl⟩
theorem c_X3_preferredSlot (h2 : 2 ≤ M) (hM : M ≤ 61) (n j : Nat) (hn : n ≤ 9999) (hj : j ≤ 61) : aRd l X mX3_preferredSlot rs4 [.ref 0, .int (nI n), .int (nI j)] (aSl M ow dr tr ch fo) (.int (nI (pPf M n j))) := by
  refine aMt.of (by decide) rfl (Nat.le_of_ble_eq_true rfl) ?_
  refine a_bipush 31 dX3_preferredSlot_0 (by decide) ?_
  refine a_iload_n dX3_preferredSlot_2 rfl ?_
  refine a_imul dX3_preferredSlot_3 ?_
  refine a_bipush 7 dX3_preferredSlot_4 (by decide) ?_
  refine a_iadd dX3_preferredSlot_6 ?_
  refine a_i2l dX3_preferredSlot_7 ?_
  have e1 : (31 * nI n + 7 : Int32).toInt64 = lN (31 * n + 7) := by
    rw [show (31 * nI n + 7 : Int32) = nI (31 * n + 7) by rw [← nI_add, ← pk_mul]; rfl]
    exact nI_l (by omega)
  rw [e1]
  refine a_aload_n dX3_preferredSlot_8 rfl ?_
  refine a_get fl_X3_31 dX3_preferredSlot_9 rfl rfl ?_
  refine a_SNiR [] k_X3_preferredSlot_57 (c_X6_remainder (31 * n + 7) M (by omega) (by omega) (by omega)) dX3_preferredSlot_12 rfl rfl rfl rfl rfl (Nat.le_of_ble_eq_true rfl) ⟨Nat.le_of_ble_eq_true rfl, Nat.le_of_ble_eq_true rfl⟩ ⟨rfl, rfl⟩ ?_
  refine a_istore_n dX3_preferredSlot_15 (by decide) rfl ?_
  refine a_bipush 17 dX3_preferredSlot_16 (by decide) ?_
  refine a_iload_n dX3_preferredSlot_18 rfl ?_
  refine a_imul dX3_preferredSlot_19 ?_
  refine a_iconst 3 dX3_preferredSlot_20 (by decide) ?_
  refine a_iadd dX3_preferredSlot_21 ?_
  refine a_i2l dX3_preferredSlot_22 ?_
  have e2 : (17 * nI n + 3 : Int32).toInt64 = lN (17 * n + 3) := by
    rw [show (17 * nI n + 3 : Int32) = nI (17 * n + 3) by rw [← nI_add, ← pk_mul]; rfl]
    exact nI_l (by omega)
  rw [e2]
  refine a_aload_n dX3_preferredSlot_23 rfl ?_
  refine a_get fl_X3_31 dX3_preferredSlot_24 rfl rfl ?_
  refine a_iconst 1 dX3_preferredSlot_27 (by decide) ?_
  refine a_isub dX3_preferredSlot_28 ?_
  rw [show (nI M - 1 : Int32) = nI (M - 1) from by obtain ⟨z, rfl⟩ : ∃ z, M = z + 1 := ⟨M - 1, by omega⟩; exact nI_pred z]
  refine a_SNiR [] k_X3_preferredSlot_57 (c_X6_remainder (17 * n + 3) (M - 1) (by omega) (by omega) (by omega)) dX3_preferredSlot_29 rfl rfl rfl rfl rfl (Nat.le_of_ble_eq_true rfl) ⟨Nat.le_of_ble_eq_true rfl, Nat.le_of_ble_eq_true rfl⟩ ⟨rfl, rfl⟩ ?_
  refine a_iconst 1 dX3_preferredSlot_32 (by decide) ?_
  refine a_iadd dX3_preferredSlot_33 ?_
  refine a_istore dX3_preferredSlot_34 (by decide) rfl ?_
  refine a_iload_n dX3_preferredSlot_36 rfl ?_
  refine a_iload_n dX3_preferredSlot_37 rfl ?_
  refine a_iload dX3_preferredSlot_38 rfl ?_
  refine a_imul dX3_preferredSlot_40 ?_
  refine a_iadd dX3_preferredSlot_41 ?_
  refine a_i2l dX3_preferredSlot_42 ?_
  have b1 : (31 * n + 7) % M < 61 := by have := Nat.mod_lt (31 * n + 7) (show 0 < M by omega); omega
  have b2 : (17 * n + 3) % (M - 1) + 1 ≤ 61 := by have := Nat.mod_lt (17 * n + 3) (show 0 < M - 1 by omega); omega
  have b3 : j * ((17 * n + 3) % (M - 1) + 1) ≤ 61 * 61 := Nat.mul_le_mul hj b2
  have e3 : (nI ((31 * n + 7) % M) + nI j * (nI ((17 * n + 3) % (M - 1)) + 1) : Int32).toInt64 = lN ((31 * n + 7) % M + j * ((17 * n + 3) % (M - 1) + 1)) := by
    rw [nI_1, pk_mul, nI_add]
    exact nI_l (by omega)
  rw [e3]
  refine a_aload_n dX3_preferredSlot_43 rfl ?_
  refine a_get fl_X3_31 dX3_preferredSlot_44 rfl rfl ?_
  refine a_SNiR [] k_X3_preferredSlot_57 (c_X6_remainder ((31 * n + 7) % M + j * ((17 * n + 3) % (M - 1) + 1)) M (by omega) (by omega) (by omega)) dX3_preferredSlot_47 rfl rfl rfl rfl rfl (Nat.le_of_ble_eq_true rfl) ⟨Nat.le_of_ble_eq_true rfl, Nat.le_of_ble_eq_true rfl⟩ ⟨rfl, rfl⟩ ?_
  refine a_iret rfl dX3_preferredSlot_50 (by decide) (by decide) ?_
  exact ⟨rfl, rfl⟩
theorem c_X3_hasTurn (r w g : Nat) (h1 : 1 ≤ r) (hr : r ≤ 61) (hw : w ≤ 16) (hg : g ≤ 16) : aRd l X mX3_hasTurn [] [.int (nI r), .int (nI w), .int (nI g)] [] (.int (bI (pTn r w g))) := by
  refine aMt.of (by decide) rfl (Nat.le_of_ble_eq_true rfl) ?_
  have b1 : r * w ≤ 61 * 16 := Nat.mul_le_mul hr hw
  have b2 : (r - 1) * w ≤ 61 * 16 := Nat.mul_le_mul (by omega) hw
  rcases Nat.eq_zero_or_pos g with hg0 | hg0
  · subst hg0
    refine a_iload_n dX3_hasTurn_0 rfl ?_
    refine a_if_le 23 dX3_hasTurn_1 (by decide) (fun _ => ?_) (fun z => absurd (by decide) z)
    refine a_iconst 0 dX3_hasTurn_23 (by decide) ?_
    refine a_zret rfl rfl dX3_hasTurn_24 (by decide) (by decide) ?_
    exact ⟨by simp [pTn, bI], rfl⟩
  · have hne : ¬ nI g = 0 := nI_ne0 hg0 (by omega)
    refine a_iload_n dX3_hasTurn_0 rfl ?_
    refine a_if_le 23 dX3_hasTurn_1 (by decide) (fun z => absurd z (nI_nle hg0 (by omega))) (fun _ => ?_)
    refine a_iload_n dX3_hasTurn_4 rfl ?_
    refine a_iload_n dX3_hasTurn_5 rfl ?_
    refine a_imul dX3_hasTurn_6 ?_
    refine a_iload_n dX3_hasTurn_7 rfl ?_
    refine a_idiv dX3_hasTurn_8 (by assumption) ?_
    refine a_iload_n dX3_hasTurn_9 rfl ?_
    refine a_iconst 1 dX3_hasTurn_10 (by decide) ?_
    refine a_isub dX3_hasTurn_11 ?_
    refine a_iload_n dX3_hasTurn_12 rfl ?_
    refine a_imul dX3_hasTurn_13 ?_
    refine a_iload_n dX3_hasTurn_14 rfl ?_
    refine a_idiv dX3_hasTurn_15 (by assumption) ?_
    have d1 : nI r * nI w / nI g = nI (r * w / g) := by rw [pk_mul]; exact pk_div (by omega) hg0 (by omega)
    have d2 : (nI r - 1) * nI w / nI g = nI ((r - 1) * w / g) := by
      rw [show (nI r - 1 : Int32) = nI (r - 1) from by obtain ⟨z, rfl⟩ : ∃ z, r = z + 1 := ⟨r - 1, by omega⟩; exact nI_pred z, pk_mul]
      exact pk_div (by omega) hg0 (by omega)
    have l1 : r * w / g ≤ r * w := Nat.div_le_self _ _
    have l2 : (r - 1) * w / g ≤ (r - 1) * w := Nat.div_le_self _ _
    rw [d1, d2]
    refine a_icmp_le 23 dX3_hasTurn_16 (by decide) (fun c16 => ?_) (fun c16 => ?_)
    · rw [nI_leI (by omega) (by omega)] at c16
      refine a_iconst 0 dX3_hasTurn_23 (by decide) ?_
      refine a_zret rfl rfl dX3_hasTurn_24 (by decide) (by decide) ?_
      exact ⟨by simp [pTn, hg0, Nat.not_lt.mpr c16, bI], rfl⟩
    · rw [nI_leI (by omega) (by omega)] at c16
      refine a_iconst 1 dX3_hasTurn_19 (by decide) ?_
      refine a_goto 24 dX3_hasTurn_20 (by decide) ?_
      refine a_zret rfl rfl dX3_hasTurn_24 (by decide) (by decide) ?_
      exact ⟨by simp [pTn, hg0, Nat.not_le.mp c16, bI], rfl⟩
end SLT
