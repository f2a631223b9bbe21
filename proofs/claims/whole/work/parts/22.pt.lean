/-! written by wip/whole/pp.py out of wip/whole/src/22.pt.lean -/
theorem dX6_init_0 : decode cX6_init 0 = .ok (.aload_n 0, 1) := by decide +kernel
theorem dX6_init_1 : decode cX6_init 1 = .ok (.invokespecial 1, 3) := by decide +kernel
theorem dX6_init_4 : decode cX6_init 4 = .ok (.aload_n 0, 1) := by decide +kernel
theorem dX6_init_5 : decode cX6_init 5 = .ok (.new 7, 3) := by decide +kernel
theorem dX6_init_8 : decode cX6_init 8 = .ok (.dup, 1) := by decide +kernel
theorem dX6_init_9 : decode cX6_init 9 = .ok (.invokespecial 9, 3) := by decide +kernel
theorem dX6_init_12 : decode cX6_init 12 = .ok (.putfield 10, 3) := by decide +kernel
theorem dX6_init_15 : decode cX6_init 15 = .ok (.aload_n 0, 1) := by decide +kernel
theorem dX6_init_16 : decode cX6_init 16 = .ok (.new 16, 3) := by decide +kernel
theorem dX6_init_19 : decode cX6_init 19 = .ok (.dup, 1) := by decide +kernel
theorem dX6_init_20 : decode cX6_init 20 = .ok (.invokespecial 18, 3) := by decide +kernel
theorem dX6_init_23 : decode cX6_init 23 = .ok (.putfield 19, 3) := by decide +kernel
theorem dX6_init_26 : decode cX6_init 26 = .ok (.aload_n 0, 1) := by decide +kernel
theorem dX6_init_27 : decode cX6_init 27 = .ok (.new 23, 3) := by decide +kernel
theorem dX6_init_30 : decode cX6_init 30 = .ok (.dup, 1) := by decide +kernel
theorem dX6_init_31 : decode cX6_init 31 = .ok (.bipush 13, 2) := by decide +kernel
theorem dX6_init_33 : decode cX6_init 33 = .ok (.invokespecial 25, 3) := by decide +kernel
theorem dX6_init_36 : decode cX6_init 36 = .ok (.putfield 28, 3) := by decide +kernel
theorem dX6_init_39 : decode cX6_init 39 = .ok (.aload_n 0, 1) := by decide +kernel
theorem dX6_init_40 : decode cX6_init 40 = .ok (.new 32, 3) := by decide +kernel
theorem dX6_init_43 : decode cX6_init 43 = .ok (.dup, 1) := by decide +kernel
theorem dX6_init_44 : decode cX6_init 44 = .ok (.invokespecial 34, 3) := by decide +kernel
theorem dX6_init_47 : decode cX6_init 47 = .ok (.putfield 35, 3) := by decide +kernel
theorem dX6_init_50 : decode cX6_init 50 = .ok (.aload_n 0, 1) := by decide +kernel
theorem dX6_init_51 : decode cX6_init 51 = .ok (.new 39, 3) := by decide +kernel
theorem dX6_init_54 : decode cX6_init 54 = .ok (.dup, 1) := by decide +kernel
theorem dX6_init_55 : decode cX6_init 55 = .ok (.invokespecial 41, 3) := by decide +kernel
theorem dX6_init_58 : decode cX6_init 58 = .ok (.putfield 42, 3) := by decide +kernel
theorem dX6_init_61 : decode cX6_init 61 = .ok (.return_, 1) := by decide +kernel
theorem dX6_checkName_0 : decode cX6_checkName 0 = .ok (.iload_n 0, 1) := by decide +kernel
theorem dX6_checkName_1 : decode cX6_checkName 1 = .ok (.iconst 1, 1) := by decide +kernel
theorem dX6_checkName_2 : decode cX6_checkName 2 = .ok (.if_icmp .lt 10, 3) := by decide +kernel
theorem dX6_checkName_5 : decode cX6_checkName 5 = .ok (.iload_n 0, 1) := by decide +kernel
theorem dX6_checkName_6 : decode cX6_checkName 6 = .ok (.sipush 9999, 3) := by decide +kernel
theorem dX6_checkName_9 : decode cX6_checkName 9 = .ok (.if_icmp .le 13, 3) := by decide +kernel
theorem dX6_checkName_12 : decode cX6_checkName 12 = .ok (.new 50, 3) := by decide +kernel
theorem dX6_checkName_15 : decode cX6_checkName 15 = .ok (.dup, 1) := by decide +kernel
theorem dX6_checkName_16 : decode cX6_checkName 16 = .ok (.ldc 227, 2) := by decide +kernel
theorem dX6_checkName_18 : decode cX6_checkName 18 = .ok (.invokespecial 54, 3) := by decide +kernel
theorem dX6_checkName_21 : decode cX6_checkName 21 = .ok (.athrow, 1) := by decide +kernel
theorem dX6_checkName_22 : decode cX6_checkName 22 = .ok (.return_, 1) := by decide +kernel
theorem dX6_checkWeight_0 : decode cX6_checkWeight 0 = .ok (.iload_n 0, 1) := by decide +kernel
theorem dX6_checkWeight_1 : decode cX6_checkWeight 1 = .ok (.iconst 1, 1) := by decide +kernel
theorem dX6_checkWeight_2 : decode cX6_checkWeight 2 = .ok (.if_icmp .lt 9, 3) := by decide +kernel
theorem dX6_checkWeight_5 : decode cX6_checkWeight 5 = .ok (.iload_n 0, 1) := by decide +kernel
theorem dX6_checkWeight_6 : decode cX6_checkWeight 6 = .ok (.bipush 16, 2) := by decide +kernel
theorem dX6_checkWeight_8 : decode cX6_checkWeight 8 = .ok (.if_icmp .le 13, 3) := by decide +kernel
theorem dX6_checkWeight_11 : decode cX6_checkWeight 11 = .ok (.new 50, 3) := by decide +kernel
theorem dX6_checkWeight_14 : decode cX6_checkWeight 14 = .ok (.dup, 1) := by decide +kernel
theorem dX6_checkWeight_15 : decode cX6_checkWeight 15 = .ok (.ldc 229, 2) := by decide +kernel
theorem dX6_checkWeight_17 : decode cX6_checkWeight 17 = .ok (.invokespecial 54, 3) := by decide +kernel
theorem dX6_checkWeight_20 : decode cX6_checkWeight 20 = .ok (.athrow, 1) := by decide +kernel
theorem dX6_checkWeight_21 : decode cX6_checkWeight 21 = .ok (.return_, 1) := by decide +kernel
theorem dX6_checkKey_0 : decode cX6_checkKey 0 = .ok (.iload_n 0, 1) := by decide +kernel
theorem dX6_checkKey_1 : decode cX6_checkKey 1 = .ok (.ifCond .lt 9, 3) := by decide +kernel
theorem dX6_checkKey_4 : decode cX6_checkKey 4 = .ok (.iload_n 0, 1) := by decide +kernel
theorem dX6_checkKey_5 : decode cX6_checkKey 5 = .ok (.ldc 231, 2) := by decide +kernel
theorem dX6_checkKey_7 : decode cX6_checkKey 7 = .ok (.if_icmp .le 13, 3) := by decide +kernel
theorem dX6_checkKey_10 : decode cX6_checkKey 10 = .ok (.new 50, 3) := by decide +kernel
theorem dX6_checkKey_13 : decode cX6_checkKey 13 = .ok (.dup, 1) := by decide +kernel
theorem dX6_checkKey_14 : decode cX6_checkKey 14 = .ok (.ldc 232, 2) := by decide +kernel
theorem dX6_checkKey_16 : decode cX6_checkKey 16 = .ok (.invokespecial 54, 3) := by decide +kernel
theorem dX6_checkKey_19 : decode cX6_checkKey 19 = .ok (.athrow, 1) := by decide +kernel
theorem dX6_checkKey_20 : decode cX6_checkKey 20 = .ok (.return_, 1) := by decide +kernel
theorem dX6_checkServer_0 : decode cX6_checkServer 0 = .ok (.aload_n 0, 1) := by decide +kernel
theorem dX6_checkServer_1 : decode cX6_checkServer 1 = .ok (.getfield 10, 3) := by decide +kernel
theorem dX6_checkServer_4 : decode cX6_checkServer 4 = .ok (.iload_n 1, 1) := by decide +kernel
theorem dX6_checkServer_5 : decode cX6_checkServer 5 = .ok (.invokevirtual 234, 3) := by decide +kernel
theorem dX6_checkServer_8 : decode cX6_checkServer 8 = .ok (.ifCond .ne 13, 3) := by decide +kernel
theorem dX6_checkServer_11 : decode cX6_checkServer 11 = .ok (.new 50, 3) := by decide +kernel
theorem dX6_checkServer_14 : decode cX6_checkServer 14 = .ok (.dup, 1) := by decide +kernel
theorem dX6_checkServer_15 : decode cX6_checkServer 15 = .ok (.ldc 237, 2) := by decide +kernel
theorem dX6_checkServer_17 : decode cX6_checkServer 17 = .ok (.invokespecial 54, 3) := by decide +kernel
theorem dX6_checkServer_20 : decode cX6_checkServer 20 = .ok (.athrow, 1) := by decide +kernel
theorem dX6_checkServer_21 : decode cX6_checkServer 21 = .ok (.return_, 1) := by decide +kernel
theorem dX6_checkEntry_0 : decode cX6_checkEntry 0 = .ok (.aload_n 0, 1) := by decide +kernel
theorem dX6_checkEntry_1 : decode cX6_checkEntry 1 = .ok (.getfield 35, 3) := by decide +kernel
theorem dX6_checkEntry_4 : decode cX6_checkEntry 4 = .ok (.iload_n 1, 1) := by decide +kernel
theorem dX6_checkEntry_5 : decode cX6_checkEntry 5 = .ok (.invokevirtual 239, 3) := by decide +kernel
theorem dX6_checkEntry_8 : decode cX6_checkEntry 8 = .ok (.ifCond .ne 13, 3) := by decide +kernel
theorem dX6_checkEntry_11 : decode cX6_checkEntry 11 = .ok (.new 182, 3) := by decide +kernel
theorem dX6_checkEntry_14 : decode cX6_checkEntry 14 = .ok (.dup, 1) := by decide +kernel
theorem dX6_checkEntry_15 : decode cX6_checkEntry 15 = .ok (.ldc 240, 2) := by decide +kernel
theorem dX6_checkEntry_17 : decode cX6_checkEntry 17 = .ok (.invokespecial 186, 3) := by decide +kernel
theorem dX6_checkEntry_20 : decode cX6_checkEntry 20 = .ok (.athrow, 1) := by decide +kernel
theorem dX6_checkEntry_21 : decode cX6_checkEntry 21 = .ok (.return_, 1) := by decide +kernel
theorem dX6_checkRoomForPin_0 : decode cX6_checkRoomForPin 0 = .ok (.aload_n 0, 1) := by decide +kernel
theorem dX6_checkRoomForPin_1 : decode cX6_checkRoomForPin 1 = .ok (.getfield 19, 3) := by decide +kernel
theorem dX6_checkRoomForPin_4 : decode cX6_checkRoomForPin 4 = .ok (.iload_n 1, 1) := by decide +kernel
theorem dX6_checkRoomForPin_5 : decode cX6_checkRoomForPin 5 = .ok (.invokevirtual 196, 3) := by decide +kernel
theorem dX6_checkRoomForPin_8 : decode cX6_checkRoomForPin 8 = .ok (.iconst (-1), 1) := by decide +kernel
theorem dX6_checkRoomForPin_9 : decode cX6_checkRoomForPin 9 = .ok (.if_icmp .ne 25, 3) := by decide +kernel
theorem dX6_checkRoomForPin_12 : decode cX6_checkRoomForPin 12 = .ok (.aload_n 0, 1) := by decide +kernel
theorem dX6_checkRoomForPin_13 : decode cX6_checkRoomForPin 13 = .ok (.getfield 19, 3) := by decide +kernel
theorem dX6_checkRoomForPin_16 : decode cX6_checkRoomForPin 16 = .ok (.invokevirtual 195, 3) := by decide +kernel
theorem dX6_checkRoomForPin_19 : decode cX6_checkRoomForPin 19 = .ok (.bipush 6, 2) := by decide +kernel
theorem dX6_checkRoomForPin_21 : decode cX6_checkRoomForPin 21 = .ok (.if_icmp .lt 13, 3) := by decide +kernel
theorem dX6_checkRoomForPin_24 : decode cX6_checkRoomForPin 24 = .ok (.new 101, 3) := by decide +kernel
theorem dX6_checkRoomForPin_27 : decode cX6_checkRoomForPin 27 = .ok (.dup, 1) := by decide +kernel
theorem dX6_checkRoomForPin_28 : decode cX6_checkRoomForPin 28 = .ok (.ldc 242, 2) := by decide +kernel
theorem dX6_checkRoomForPin_30 : decode cX6_checkRoomForPin 30 = .ok (.invokespecial 105, 3) := by decide +kernel
theorem dX6_checkRoomForPin_33 : decode cX6_checkRoomForPin 33 = .ok (.athrow, 1) := by decide +kernel
theorem dX6_checkRoomForPin_34 : decode cX6_checkRoomForPin 34 = .ok (.return_, 1) := by decide +kernel
theorem k_X6_init_9 : aKI mX6_init mX0_init 9 0 := ⟨cb_X0_init, rfl, rfl, (Or.inr ⟨_, mn_X6_9⟩), iv_X0_init, rfl, ⟨Nat.le_of_ble_eq_true rfl, Nat.le_of_ble_eq_true rfl⟩⟩
theorem k_X6_init_18 : aKI mX6_init mX2_init 18 0 := ⟨cb_X2_init, rfl, rfl, (Or.inr ⟨_, mn_X6_18⟩), iv_X2_init, rfl, ⟨Nat.le_of_ble_eq_true rfl, Nat.le_of_ble_eq_true rfl⟩⟩
theorem k_X6_init_25 : aKI mX6_init mX3_init 25 1 := ⟨cb_X3_init, rfl, rfl, (Or.inl ml_X6_25), iv_X3_init, rfl, ⟨Nat.le_of_ble_eq_true rfl, Nat.le_of_ble_eq_true rfl⟩⟩
theorem k_X6_init_34 : aKI mX6_init mX5_init 34 0 := ⟨cb_X5_init, rfl, rfl, (Or.inr ⟨_, mn_X6_34⟩), iv_X5_init, rfl, ⟨Nat.le_of_ble_eq_true rfl, Nat.le_of_ble_eq_true rfl⟩⟩
theorem k_X6_init_41 : aKI mX6_init mX1_init 41 0 := ⟨cb_X1_init, rfl, rfl, (Or.inl ml_X6_41), iv_X1_init, rfl, ⟨Nat.le_of_ble_eq_true rfl, Nat.le_of_ble_eq_true rfl⟩⟩
theorem k_X6_checkServer_234 : aKV mX6_checkServer mX0_has 234 1 0 := ⟨cb_X0_has, rfl, ml_X6_234, iv_X0_has, sl_X0_has, ⟨_, _, rfl⟩, ⟨Nat.le_of_ble_eq_true rfl, Nat.le_of_ble_eq_true rfl⟩⟩
theorem k_X6_checkEntry_239 : aKV mX6_checkEntry mX5_has 239 1 5 := ⟨cb_X5_has, rfl, ml_X6_239, iv_X5_has, sl_X5_has, ⟨_, _, rfl⟩, ⟨Nat.le_of_ble_eq_true rfl, Nat.le_of_ble_eq_true rfl⟩⟩
theorem k_X6_checkRoomForPin_196 : aKV mX6_checkRoomForPin mX2_server 196 1 2 := ⟨cb_X2_server, rfl, ml_X6_196, iv_X2_server, sl_X2_server, ⟨_, _, rfl⟩, ⟨Nat.le_of_ble_eq_true rfl, Nat.le_of_ble_eq_true rfl⟩⟩
theorem k_X6_checkRoomForPin_195 : aKV mX6_checkRoomForPin mX2_size 195 0 2 := ⟨cb_X2_size, rfl, ml_X6_195, iv_X2_size, sl_X2_size, ⟨_, _, rfl⟩, ⟨Nat.le_of_ble_eq_true rfl, Nat.le_of_ble_eq_true rfl⟩⟩
/-! ===== PreferenceTable ===== -/
abbrev IAE : String := "java/lang/IllegalArgumentException"
abbrev ISE : String := "java/lang/IllegalStateException"
abbrev IOE : String := "java/lang/IndexOutOfBoundsException"
section PTW
variable {l : Launch} {X : aX} {M M' : aM} {F : aPh} {kc ks pc : Nat} {L st rest As av : List Value} {h hc : List aCell} {rs rs0 : List Nat} {Q : aQt} {n idx ci b : Nat} {fs : List Value} {E : String}
/-- calls that throw, or answer nothing and change nothing -/
theorem a_Sx (is : List Nat) (hk : aKS M M' idx n) (hC : aMt l X M' rs av hc (fun o h' => o = .inr E ∧ h' = hc)) (hd : decode M.2.1 pc = .ok (.invokestatic idx, 3)) (hnn : av.length = n) (hs : aSel h is hc) (hn : va_nd is = true) (hst : st = aPush (av.map (aRv (aRi h.length is))) rest) (hkeep : aKeep is rs h.length L rest h rs0 = true) (hcat : (rest.map fun v => v.category).sum ≤ 8) (hf : kc + aMc M' ≤ aMc M ∧ ks + aMs M' ≤ aMs M) (hh : M.2.2.2.2.1 = []) (hq : Q (.inr E) h) : aJ l X M (aEd X M rs0 Q) kc ks pc L st h := by
  obtain ⟨k1, k2, k3, k4, k5⟩ := hk
  refine a_callS hC k1 k2 k3 k4 hnn hs hn hst hkeep hcat k5 hf hd (fun E' h' z => ?_) (fun v h' z => nomatch z.1)
  obtain ⟨z1, rfl⟩ := z
  cases z1
  rw [aMg_id hs hn]
  exact ⟨by rw [hs.len]; exact Nat.le_refl _, a_out hh hf.1 hf.2 hq⟩
theorem a_Sr (is : List Nat) (hk : aKS M M' idx n) (hC : aMt l X M' rs av hc (fun o h' => o = .inl none ∧ h' = hc)) (hd : decode M.2.1 pc = .ok (.invokestatic idx, 3)) (hnn : av.length = n) (hs : aSel h is hc) (hn : va_nd is = true) (hst : st = aPush (av.map (aRv (aRi h.length is))) rest) (hkeep : aKeep is rs h.length L rest h F.1 = true) (hcat : (rest.map fun v => v.category).sum ≤ 8) (hf : kc + aMc M' ≤ aMc M ∧ ks + aMs M' ≤ aMs M) (kk : aJ l X M F (kc + aMc M') (ks + aMs M') (pc + 3) L rest h) : aJ l X M F kc ks pc L st h := by
  obtain ⟨k1, k2, k3, k4, k5⟩ := hk
  refine a_callS hC k1 k2 k3 k4 hnn hs hn hst hkeep hcat k5 hf hd (fun E' h' z => nomatch z.1) (fun v h' z => ?_)
  obtain ⟨z1, rfl⟩ := z
  cases z1
  rw [aMg_id hs hn]
  exact ⟨by rw [hs.len]; exact Nat.le_refl _, kk⟩
theorem a_Vx (is : List Nat) (hk : aKV M M' idx n ci) (hC : aMt l X M' rs (.ref b :: As) hc (fun o h' => o = .inr E ∧ h' = hc)) (hd : decode M.2.1 pc = .ok (.invokevirtual idx, 3)) (hnn : As.length = n) (hrc : hc[b]? = some (aOb ci fs)) (hs : aSel h is hc) (hn : va_nd is = true) (hst : st = aPush ((.ref b :: As).map (aRv (aRi h.length is))) rest) (hkeep : aKeep is rs h.length L rest h rs0 = true) (hcat : (rest.map fun v => v.category).sum ≤ 8) (hf : kc + aMc M' ≤ aMc M ∧ ks + aMs M' ≤ aMs M) (hh : M.2.2.2.2.1 = []) (hq : Q (.inr E) h) : aJ l X M (aEd X M rs0 Q) kc ks pc L st h := by
  obtain ⟨k1, k2, k3, k4, k5, ⟨T, N, k6⟩, k7⟩ := hk
  refine a_callV (C := RX0) hC k1 k2 k3 k4 k5 rfl hnn hrc k6 hs hn hst hkeep hcat k7 hf hd (fun E' h' z => ?_) (fun v h' z => nomatch z.1)
  obtain ⟨z1, rfl⟩ := z
  cases z1
  rw [aMg_id hs hn]
  exact ⟨by rw [hs.len]; exact Nat.le_refl _, a_out hh hf.1 hf.2 hq⟩
theorem a_Vr (is : List Nat) (hk : aKV M M' idx n ci) (hC : aMt l X M' rs (.ref b :: As) hc (fun o h' => o = .inl none ∧ h' = hc)) (hd : decode M.2.1 pc = .ok (.invokevirtual idx, 3)) (hnn : As.length = n) (hrc : hc[b]? = some (aOb ci fs)) (hs : aSel h is hc) (hn : va_nd is = true) (hst : st = aPush ((.ref b :: As).map (aRv (aRi h.length is))) rest) (hkeep : aKeep is rs h.length L rest h F.1 = true) (hcat : (rest.map fun v => v.category).sum ≤ 8) (hf : kc + aMc M' ≤ aMc M ∧ ks + aMs M' ≤ aMs M) (kk : aJ l X M F (kc + aMc M') (ks + aMs M') (pc + 3) L rest h) : aJ l X M F kc ks pc L st h := by
  obtain ⟨k1, k2, k3, k4, k5, ⟨T, N, k6⟩, k7⟩ := hk
  refine a_callV (C := RX0) hC k1 k2 k3 k4 k5 rfl hnn hrc k6 hs hn hst hkeep hcat k7 hf hd (fun E' h' z => nomatch z.1) (fun v h' z => ?_)
  obtain ⟨z1, rfl⟩ := z
  cases z1
  rw [aMg_id hs hn]
  exact ⟨by rw [hs.len]; exact Nat.le_refl _, kk⟩
end PTW
/-- servers and pins, in whole numbers: names (0: free), weights, up, loads, pinned keys, their servers, how many -/
abbrev fT : Type := (Nat → Nat) × (Nat → Nat) × (Nat → Bool) × (Nat → Int64) × (Nat → Int32) × (Nat → Int32) × Nat
def cS (t : fT) : sT := (fun j => nI (t.1 j), fun j => nI (t.2.1 j), fun j => bI (t.2.2.1 j), t.2.2.2.1, t.2.2.2.2.1, t.2.2.2.2.2.1, t.2.2.2.2.2.2)
/-- the table: M, owners, draft, tried, changed, forced -/
abbrev bT : Type := Nat × (Nat → Int32) × (Nat → Int32) × (Nat → Int32) × Int32 × Int32
/-- the tracker: keys, counts, errors; how many -/
abbrev kT : Type := tT × Nat
/-- what can be undone: how many, newest first -/
abbrev hT : Type := Nat × fT × fT × fT × fT
abbrev aTB (b : Nat) (t : bT) : List aCell := [aOb 3 [.int (nI t.1), .ref (b + 1), .ref (b + 2), .ref (b + 3), .int t.2.2.2.2.1, .int t.2.2.2.2.2], aIa 61 t.2.1, aIa 61 t.2.2.1, aIa 10 t.2.2.2.1]
abbrev aTK (b : Nat) (k : kT) : List aCell := [aOb 5 [.ref (b + 1), .ref (b + 2), .ref (b + 3), .int (nI k.2)], aIa 8 k.1.1, aLa 8 k.1.2.1, aLa 8 k.1.2.2]
abbrev aPT (t : fT) (b : bT) (k : kT) (y : hT) : List aCell := [aOb 6 [.ref 1, .ref 6, .ref 9, .ref 13, .ref 17]] ++ (aFP 1 (cS t) ++ (aTB 9 b ++ (aTK 13 k ++ aHi 17 y.1 (cS y.2.1) (cS y.2.2.1) (cS y.2.2.2.1) (cS y.2.2.2.2))))
abbrev is55 : List Nat := [0, 1, 2, 3, 4, 5, 6, 7, 8, 9, 10, 11, 12, 13, 14, 15, 16, 17, 18, 19, 20, 21, 22, 23, 24, 25, 26, 27, 28, 29, 30, 31, 32, 33, 34, 35, 36, 37, 38, 39, 40, 41, 42, 43, 44, 45, 46, 47, 48, 49, 50, 51, 52, 53, 54]
abbrev isHF : List Nat := [17, 18, 19, 20, 21, 22, 23, 24, 25, 26, 27, 28, 29, 30, 31, 32, 33, 34, 35, 36, 37, 38, 39, 40, 41, 42, 43, 44, 45, 46, 47, 48, 49, 50, 51, 52, 53, 54, 1, 2, 3, 4, 5, 6, 7, 8]
def b0T : bT := (13, fFl 61 (fun _ => -1) (fun _ => 0), fun _ => 0, fun _ => 0, 0, 0)
def f0T : fT := (fun _ => 0, fun _ => 0, fun _ => false, fun _ => 0, fun _ => 0, fun _ => 0, 0)
def k0T : kT := ((fun _ => 0, fun _ => 0, fun _ => 0), 0)
theorem c0T : cS f0T = s0T := rfl
/-- ranges of arguments -/
def gNm (n : Int32) : Bool := decide (¬ n < 1) && decide (n ≤ 9999)
def gWt (n : Int32) : Bool := decide (¬ n < 1) && decide (n ≤ 16)
def gKy (n : Int32) : Bool := decide (¬ n < 0) && decide (n ≤ 99999)
section PT1
variable {l : Launch} {X : aX} {t : fT} {b : bT} {k : kT} {y : hT}
set_option maxRecDepth 20000 in
theorem c_X6_init : aWr l X mX6_init [0] [.ref 0] [aOb 6 [.null, .null, .null, .null, .null]] none (aPT f0T b0T k0T (0, f0T, f0T, f0T, f0T)) := by
  refine aMt.of (by decide) rfl (Nat.le_of_ble_eq_true rfl) ?_
  refine a_aload_n dX6_init_0 rfl ?_
  refine a_objInit ml_X6_1 oi_iv oi_cd dX6_init_1 (by decide) (Nat.le_of_ble_eq_true rfl) ?_
  refine a_aload_n dX6_init_4 rfl ?_
  refine a_new (ci := 0) (fs := [.null, .null, .null, .null]) rfl u_X0 tyX0_ok kl_X6_7 ins_X0 ini_X0 dX6_init_5 (fun j hj => by first | (match j, hj with | 0, _ => rfl | 1, _ => rfl | 2, _ => rfl | 3, _ => rfl)) (fun _ => rfl) rfl (by decide) (by decide) ?_
  refine a_dup dX6_init_8 rfl ?_
  refine a_IvW [1] (_) k_X6_init_9 (c_X0_init) dX6_init_9 rfl rfl rfl rfl rfl (Nat.le_of_ble_eq_true rfl) ⟨Nat.le_of_ble_eq_true rfl, Nat.le_of_ble_eq_true rfl⟩ (Nat.le_of_ble_eq_true rfl) rfl ?_
  refine a_putF fp_X6_10 rfl dX6_init_12 rfl (Nat.le_of_ble_eq_true rfl) (fun _ => ⟨rfl, rfl⟩) ?_
  refine a_aload_n dX6_init_15 rfl ?_
  refine a_new (ci := 2) (fs := [.null, .null, .int 0]) rfl u_X2 tyX2_ok kl_X6_16 ins_X2 ini_X2 dX6_init_16 (fun j hj => by first | (match j, hj with | 0, _ => rfl | 1, _ => rfl | 2, _ => rfl)) (fun _ => rfl) rfl (by decide) (by decide) ?_
  refine a_dup dX6_init_19 rfl ?_
  refine a_IvW [6] (_) k_X6_init_18 (c_X2_init) dX6_init_20 rfl rfl rfl rfl rfl (Nat.le_of_ble_eq_true rfl) ⟨Nat.le_of_ble_eq_true rfl, Nat.le_of_ble_eq_true rfl⟩ (Nat.le_of_ble_eq_true rfl) rfl ?_
  refine a_putF fp_X6_19 rfl dX6_init_23 rfl (Nat.le_of_ble_eq_true rfl) (fun _ => ⟨rfl, rfl⟩) ?_
  refine a_aload_n dX6_init_26 rfl ?_
  refine a_new (ci := 3) (fs := [.int 0, .null, .null, .null, .int 0, .int 0]) rfl u_X3 tyX3_ok kl_X6_23 ins_X3 ini_X3 dX6_init_27 (fun j hj => by first | (match j, hj with | 0, _ => rfl | 1, _ => rfl | 2, _ => rfl | 3, _ => rfl | 4, _ => rfl | 5, _ => rfl)) (fun _ => rfl) rfl (by decide) (by decide) ?_
  refine a_dup dX6_init_30 rfl ?_
  refine a_bipush 13 dX6_init_31 (by decide) ?_
  refine a_IvW [9] (_) k_X6_init_25 (c_X3_init 13 (by decide)) dX6_init_33 rfl rfl rfl rfl rfl (Nat.le_of_ble_eq_true rfl) ⟨Nat.le_of_ble_eq_true rfl, Nat.le_of_ble_eq_true rfl⟩ (Nat.le_of_ble_eq_true rfl) rfl ?_
  refine a_putF fp_X6_28 rfl dX6_init_36 rfl (Nat.le_of_ble_eq_true rfl) (fun _ => ⟨rfl, rfl⟩) ?_
  refine a_aload_n dX6_init_39 rfl ?_
  refine a_new (ci := 5) (fs := [.null, .null, .null, .int 0]) rfl u_X5 tyX5_ok kl_X6_32 ins_X5 ini_X5 dX6_init_40 (fun j hj => by first | (match j, hj with | 0, _ => rfl | 1, _ => rfl | 2, _ => rfl | 3, _ => rfl)) (fun _ => rfl) rfl (by decide) (by decide) ?_
  refine a_dup dX6_init_43 rfl ?_
  refine a_IvW [13] (_) k_X6_init_34 (c_X5_init) dX6_init_44 rfl rfl rfl rfl rfl (Nat.le_of_ble_eq_true rfl) ⟨Nat.le_of_ble_eq_true rfl, Nat.le_of_ble_eq_true rfl⟩ (Nat.le_of_ble_eq_true rfl) rfl ?_
  refine a_putF fp_X6_35 rfl dX6_init_47 rfl (Nat.le_of_ble_eq_true rfl) (fun _ => ⟨rfl, rfl⟩) ?_
  refine a_aload_n dX6_init_50 rfl ?_
  refine a_new (ci := 1) (fs := [.null, .int 0]) rfl u_X1 tyX1_ok kl_X6_39 ins_X1 ini_X1 dX6_init_51 (fun j hj => by first | (match j, hj with | 0, _ => rfl | 1, _ => rfl)) (fun _ => rfl) rfl (by decide) (by decide) ?_
  refine a_dup dX6_init_54 rfl ?_
  refine a_IvW [17] (_) k_X6_init_41 (c_X1_init) dX6_init_55 rfl rfl rfl rfl rfl (Nat.le_of_ble_eq_true rfl) ⟨Nat.le_of_ble_eq_true rfl, Nat.le_of_ble_eq_true rfl⟩ (Nat.le_of_ble_eq_true rfl) rfl ?_
  refine a_putF fp_X6_42 rfl dX6_init_58 rfl (Nat.le_of_ble_eq_true rfl) (fun _ => ⟨rfl, rfl⟩) ?_
  refine a_vret rfl dX6_init_61 (by decide) (by decide) ?_
  exact ⟨rfl, rfl⟩
theorem c_X6_checkName (hl : l.stackTraces = false) (n : Int32) : aMt l X mX6_checkName [] [.int n] [] (fun o h' => o = (if gNm n then .inl none else .inr IAE) ∧ h' = []) := by
  refine aMt.of (by decide) rfl (Nat.le_of_ble_eq_true rfl) ?_
  refine a_iload_n dX6_checkName_0 rfl ?_
  refine a_iconst 1 dX6_checkName_1 (by decide) ?_
  refine a_icmp_lt 12 dX6_checkName_2 (by decide) (fun c2 => ?_) (fun c2 => ?_)
  · refine a_throw hl tw_54 tx_X6_227 rfl dX6_checkName_12 dX6_checkName_15 dX6_checkName_16 dX6_checkName_18 dX6_checkName_21 ⟨Nat.le_of_ble_eq_true rfl, Nat.le_of_ble_eq_true rfl⟩ (Nat.le_of_ble_eq_true rfl) (Nat.le_of_ble_eq_true rfl) ?_
    exact ⟨by simp [gNm, c2], rfl⟩
  · refine a_iload_n dX6_checkName_5 rfl ?_
    refine a_sipush 9999 dX6_checkName_6 (by decide) ?_
    refine a_icmp_le 22 dX6_checkName_9 (by decide) (fun c9 => ?_) (fun c9 => ?_)
    · refine a_vret rfl dX6_checkName_22 (by decide) (by decide) ?_
      exact ⟨by simp [gNm, c2, c9], rfl⟩
    · refine a_throw hl tw_54 tx_X6_227 rfl dX6_checkName_12 dX6_checkName_15 dX6_checkName_16 dX6_checkName_18 dX6_checkName_21 ⟨Nat.le_of_ble_eq_true rfl, Nat.le_of_ble_eq_true rfl⟩ (Nat.le_of_ble_eq_true rfl) (Nat.le_of_ble_eq_true rfl) ?_
      exact ⟨by simp [gNm, c9], rfl⟩
theorem c_X6_checkWeight (hl : l.stackTraces = false) (n : Int32) : aMt l X mX6_checkWeight [] [.int n] [] (fun o h' => o = (if gWt n then .inl none else .inr IAE) ∧ h' = []) := by
  refine aMt.of (by decide) rfl (Nat.le_of_ble_eq_true rfl) ?_
  refine a_iload_n dX6_checkWeight_0 rfl ?_
  refine a_iconst 1 dX6_checkWeight_1 (by decide) ?_
  refine a_icmp_lt 11 dX6_checkWeight_2 (by decide) (fun c2 => ?_) (fun c2 => ?_)
  · refine a_throw hl tw_54 tx_X6_229 rfl dX6_checkWeight_11 dX6_checkWeight_14 dX6_checkWeight_15 dX6_checkWeight_17 dX6_checkWeight_20 ⟨Nat.le_of_ble_eq_true rfl, Nat.le_of_ble_eq_true rfl⟩ (Nat.le_of_ble_eq_true rfl) (Nat.le_of_ble_eq_true rfl) ?_
    exact ⟨by simp [gWt, c2], rfl⟩
  · refine a_iload_n dX6_checkWeight_5 rfl ?_
    refine a_bipush 16 dX6_checkWeight_6 (by decide) ?_
    refine a_icmp_le 21 dX6_checkWeight_8 (by decide) (fun c8 => ?_) (fun c8 => ?_)
    · refine a_vret rfl dX6_checkWeight_21 (by decide) (by decide) ?_
      exact ⟨by simp [gWt, c2, c8], rfl⟩
    · refine a_throw hl tw_54 tx_X6_229 rfl dX6_checkWeight_11 dX6_checkWeight_14 dX6_checkWeight_15 dX6_checkWeight_17 dX6_checkWeight_20 ⟨Nat.le_of_ble_eq_true rfl, Nat.le_of_ble_eq_true rfl⟩ (Nat.le_of_ble_eq_true rfl) (Nat.le_of_ble_eq_true rfl) ?_
      exact ⟨by simp [gWt, c8], rfl⟩
theorem c_X6_checkKey (hl : l.stackTraces = false) (n : Int32) : aMt l X mX6_checkKey [] [.int n] [] (fun o h' => o = (if gKy n then .inl none else .inr IAE) ∧ h' = []) := by
  refine aMt.of (by decide) rfl (Nat.le_of_ble_eq_true rfl) ?_
  refine a_iload_n dX6_checkKey_0 rfl ?_
  refine a_if_lt 10 dX6_checkKey_1 (by decide) (fun c1 => ?_) (fun c1 => ?_)
  · refine a_throw hl tw_54 tx_X6_232 rfl dX6_checkKey_10 dX6_checkKey_13 dX6_checkKey_14 dX6_checkKey_16 dX6_checkKey_19 ⟨Nat.le_of_ble_eq_true rfl, Nat.le_of_ble_eq_true rfl⟩ (Nat.le_of_ble_eq_true rfl) (Nat.le_of_ble_eq_true rfl) ?_
    exact ⟨by simp [gKy, c1], rfl⟩
  · refine a_iload_n dX6_checkKey_4 rfl ?_
    refine a_ldc dX6_checkKey_5 cn_X6_231 ?_
    refine a_icmp_le 20 dX6_checkKey_7 (by decide) (fun c7 => ?_) (fun c7 => ?_)
    · refine a_vret rfl dX6_checkKey_20 (by decide) (by decide) ?_
      exact ⟨by simp [gKy, c1, c7], rfl⟩
    · refine a_throw hl tw_54 tx_X6_232 rfl dX6_checkKey_10 dX6_checkKey_13 dX6_checkKey_14 dX6_checkKey_16 dX6_checkKey_19 ⟨Nat.le_of_ble_eq_true rfl, Nat.le_of_ble_eq_true rfl⟩ (Nat.le_of_ble_eq_true rfl) (Nat.le_of_ble_eq_true rfl) ?_
      exact ⟨by simp [gKy, c7], rfl⟩
theorem c_X6_checkServer (hl : l.stackTraces = false) (s : Int32) : aMt l X mX6_checkServer [0] [.ref 0, .int s] (aPT t b k y) (fun o h' => o = (if fHs (cS t).1 s then .inl none else .inr IAE) ∧ h' = aPT t b k y) := by
  refine aMt.of (by decide) rfl (Nat.le_of_ble_eq_true rfl) ?_
  refine a_aload_n dX6_checkServer_0 rfl ?_
  refine a_get fl_X6_10 dX6_checkServer_1 rfl rfl ?_
  refine a_iload_n dX6_checkServer_4 rfl ?_
  refine a_ViR [1, 2, 3, 4, 5] k_X6_checkServer_234 (c_X0_has (nm := (cS t).1) (wt := (cS t).2.1) (up := (cS t).2.2.1) (ld := (cS t).2.2.2.1) s) dX6_checkServer_5 rfl rfl rfl rfl rfl rfl (Nat.le_of_ble_eq_true rfl) ⟨Nat.le_of_ble_eq_true rfl, Nat.le_of_ble_eq_true rfl⟩ ⟨rfl, rfl⟩ ?_
  refine a_if_ne 21 dX6_checkServer_8 (by decide) (fun c8 => ?_) (fun c8 => ?_)
  · refine a_vret rfl dX6_checkServer_21 (by decide) (by decide) ?_
    exact ⟨by simp [bI_1 c8], rfl⟩
  · refine a_throw hl tw_54 tx_X6_237 rfl dX6_checkServer_11 dX6_checkServer_14 dX6_checkServer_15 dX6_checkServer_17 dX6_checkServer_20 ⟨Nat.le_of_ble_eq_true rfl, Nat.le_of_ble_eq_true rfl⟩ (Nat.le_of_ble_eq_true rfl) (Nat.le_of_ble_eq_true rfl) ?_
    exact ⟨by simp [bI_0 c8], rfl⟩
theorem c_X6_checkEntry (hl : l.stackTraces = false) (s : Int32) : aMt l X mX6_checkEntry [0] [.ref 0, .int s] (aPT t b k y) (fun o h' => o = (if tHs k.2 s then .inl none else .inr IOE) ∧ h' = aPT t b k y) := by
  refine aMt.of (by decide) rfl (Nat.le_of_ble_eq_true rfl) ?_
  refine a_aload_n dX6_checkEntry_0 rfl ?_
  refine a_get fl_X6_35 dX6_checkEntry_1 rfl rfl ?_
  refine a_iload_n dX6_checkEntry_4 rfl ?_
  refine a_ViR [13, 14, 15, 16] k_X6_checkEntry_239 (c_X5_has (tk := k.1.1) (tc := k.1.2.1) (te := k.1.2.2) (m := k.2) s) dX6_checkEntry_5 rfl rfl rfl rfl rfl rfl (Nat.le_of_ble_eq_true rfl) ⟨Nat.le_of_ble_eq_true rfl, Nat.le_of_ble_eq_true rfl⟩ ⟨rfl, rfl⟩ ?_
  refine a_if_ne 21 dX6_checkEntry_8 (by decide) (fun c8 => ?_) (fun c8 => ?_)
  · refine a_vret rfl dX6_checkEntry_21 (by decide) (by decide) ?_
    exact ⟨by simp [bI_1 c8], rfl⟩
  · refine a_throw hl tw_186 tx_X6_240 rfl dX6_checkEntry_11 dX6_checkEntry_14 dX6_checkEntry_15 dX6_checkEntry_17 dX6_checkEntry_20 ⟨Nat.le_of_ble_eq_true rfl, Nat.le_of_ble_eq_true rfl⟩ (Nat.le_of_ble_eq_true rfl) (Nat.le_of_ble_eq_true rfl) ?_
    exact ⟨by simp [bI_0 c8], rfl⟩
/-- the server of a pinned key, and whether there is room for a pin -/
abbrev pKy (t : fT) (key : Int32) : Int32 := pSv t.2.2.2.2.1 t.2.2.2.2.2.1 key t.2.2.2.2.2.2
def gRm (t : fT) (key : Int32) : Bool := decide (¬ pKy t key = -1) || decide (nI t.2.2.2.2.2.2 < 6)
theorem c_X6_checkRoomForPin (hl : l.stackTraces = false) (hm : t.2.2.2.2.2.2 ≤ 6) (key : Int32) : aMt l X mX6_checkRoomForPin [0] [.ref 0, .int key] (aPT t b k y) (fun o h' => o = (if gRm t key then .inl none else .inr ISE) ∧ h' = aPT t b k y) := by
  refine aMt.of (by decide) rfl (Nat.le_of_ble_eq_true rfl) ?_
  refine a_aload_n dX6_checkRoomForPin_0 rfl ?_
  refine a_get fl_X6_19 dX6_checkRoomForPin_1 rfl rfl ?_
  refine a_iload_n dX6_checkRoomForPin_4 rfl ?_
  refine a_ViR [6, 7, 8] k_X6_checkRoomForPin_196 (c_X2_server (pk := t.2.2.2.2.1) (ps := t.2.2.2.2.2.1) hm key) dX6_checkRoomForPin_5 rfl rfl rfl rfl rfl rfl (Nat.le_of_ble_eq_true rfl) ⟨Nat.le_of_ble_eq_true rfl, Nat.le_of_ble_eq_true rfl⟩ ⟨rfl, rfl⟩ ?_
  refine a_iconst (-1) dX6_checkRoomForPin_8 (by decide) ?_
  refine a_icmp_ne 34 dX6_checkRoomForPin_9 (by decide) (fun c9 => ?_) (fun c9 => ?_)
  · refine a_vret rfl dX6_checkRoomForPin_34 (by decide) (by decide) ?_
    exact ⟨by simp [gRm, c9], rfl⟩
  · refine a_aload_n dX6_checkRoomForPin_12 rfl ?_
    refine a_get fl_X6_19 dX6_checkRoomForPin_13 rfl rfl ?_
    refine a_ViR [6, 7, 8] k_X6_checkRoomForPin_195 (c_X2_size (pk := t.2.2.2.2.1) (ps := t.2.2.2.2.2.1) (m := t.2.2.2.2.2.2)) dX6_checkRoomForPin_16 rfl rfl rfl rfl rfl rfl (Nat.le_of_ble_eq_true rfl) ⟨Nat.le_of_ble_eq_true rfl, Nat.le_of_ble_eq_true rfl⟩ ⟨rfl, rfl⟩ ?_
    refine a_bipush 6 dX6_checkRoomForPin_19 (by decide) ?_
    refine a_icmp_lt 34 dX6_checkRoomForPin_21 (by decide) (fun c21 => ?_) (fun c21 => ?_)
    · refine a_vret rfl dX6_checkRoomForPin_34 (by decide) (by decide) ?_
      exact ⟨by simp [gRm, c21], rfl⟩
    · refine a_throw hl tw_105 tx_X6_242 rfl dX6_checkRoomForPin_24 dX6_checkRoomForPin_27 dX6_checkRoomForPin_28 dX6_checkRoomForPin_30 dX6_checkRoomForPin_33 ⟨Nat.le_of_ble_eq_true rfl, Nat.le_of_ble_eq_true rfl⟩ (Nat.le_of_ble_eq_true rfl) (Nat.le_of_ble_eq_true rfl) ?_
      exact ⟨by simp [gRm, c9, c21], rfl⟩
end PT1
