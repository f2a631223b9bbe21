/-! written by wip/whole/pp.py out of wip/whole/src/21.hist2.lean -/
theorem dX1_init_0 : decode cX1_init 0 = .ok (.aload_n 0, 1) := by decide +kernel
theorem dX1_init_1 : decode cX1_init 1 = .ok (.invokespecial 3, 3) := by decide +kernel
theorem dX1_init_4 : decode cX1_init 4 = .ok (.aload_n 0, 1) := by decide +kernel
theorem dX1_init_5 : decode cX1_init 5 = .ok (.iconst 4, 1) := by decide +kernel
theorem dX1_init_6 : decode cX1_init 6 = .ok (.anewarray 9, 3) := by decide +kernel
theorem dX1_init_9 : decode cX1_init 9 = .ok (.putfield 11, 3) := by decide +kernel
theorem dX1_init_12 : decode cX1_init 12 = .ok (.aload_n 0, 1) := by decide +kernel
theorem dX1_init_13 : decode cX1_init 13 = .ok (.iconst 0, 1) := by decide +kernel
theorem dX1_init_14 : decode cX1_init 14 = .ok (.putfield 17, 3) := by decide +kernel
theorem dX1_init_17 : decode cX1_init 17 = .ok (.iconst 0, 1) := by decide +kernel
theorem dX1_init_18 : decode cX1_init 18 = .ok (.istore_n 1, 1) := by decide +kernel
theorem dX1_init_19 : decode cX1_init 19 = .ok (.iload_n 1, 1) := by decide +kernel
theorem dX1_init_20 : decode cX1_init 20 = .ok (.iconst 4, 1) := by decide +kernel
theorem dX1_init_21 : decode cX1_init 21 = .ok (.if_icmp .ge 22, 3) := by decide +kernel
theorem dX1_init_24 : decode cX1_init 24 = .ok (.aload_n 0, 1) := by decide +kernel
theorem dX1_init_25 : decode cX1_init 25 = .ok (.getfield 11, 3) := by decide +kernel
theorem dX1_init_28 : decode cX1_init 28 = .ok (.iload_n 1, 1) := by decide +kernel
theorem dX1_init_29 : decode cX1_init 29 = .ok (.new 9, 3) := by decide +kernel
theorem dX1_init_32 : decode cX1_init 32 = .ok (.dup, 1) := by decide +kernel
theorem dX1_init_33 : decode cX1_init 33 = .ok (.invokespecial 21, 3) := by decide +kernel
theorem dX1_init_36 : decode cX1_init 36 = .ok (.aastore, 1) := by decide +kernel
theorem dX1_init_37 : decode cX1_init 37 = .ok (.iinc 1 1, 3) := by decide +kernel
theorem dX1_init_40 : decode cX1_init 40 = .ok (.goto (-21), 3) := by decide +kernel
theorem dX1_init_43 : decode cX1_init 43 = .ok (.return_, 1) := by decide +kernel
theorem dX1_clear_0 : decode cX1_clear 0 = .ok (.aload_n 0, 1) := by decide +kernel
theorem dX1_clear_1 : decode cX1_clear 1 = .ok (.iconst 0, 1) := by decide +kernel
theorem dX1_clear_2 : decode cX1_clear 2 = .ok (.putfield 17, 3) := by decide +kernel
theorem dX1_clear_5 : decode cX1_clear 5 = .ok (.return_, 1) := by decide +kernel
theorem dX1_size_0 : decode cX1_size 0 = .ok (.aload_n 0, 1) := by decide +kernel
theorem dX1_size_1 : decode cX1_size 1 = .ok (.getfield 17, 3) := by decide +kernel
theorem dX1_size_4 : decode cX1_size 4 = .ok (.ireturn, 1) := by decide +kernel
theorem dX1_remember_0 : decode cX1_remember 0 = .ok (.aload_n 0, 1) := by decide +kernel
theorem dX1_remember_1 : decode cX1_remember 1 = .ok (.getfield 11, 3) := by decide +kernel
theorem dX1_remember_4 : decode cX1_remember 4 = .ok (.iconst 3, 1) := by decide +kernel
theorem dX1_remember_5 : decode cX1_remember 5 = .ok (.aaload, 1) := by decide +kernel
theorem dX1_remember_6 : decode cX1_remember 6 = .ok (.astore_n 3, 1) := by decide +kernel
theorem dX1_remember_7 : decode cX1_remember 7 = .ok (.iconst 3, 1) := by decide +kernel
theorem dX1_remember_8 : decode cX1_remember 8 = .ok (.istore 4, 2) := by decide +kernel
theorem dX1_remember_10 : decode cX1_remember 10 = .ok (.iload 4, 2) := by decide +kernel
theorem dX1_remember_12 : decode cX1_remember 12 = .ok (.ifCond .le 25, 3) := by decide +kernel
theorem dX1_remember_15 : decode cX1_remember 15 = .ok (.aload_n 0, 1) := by decide +kernel
theorem dX1_remember_16 : decode cX1_remember 16 = .ok (.getfield 11, 3) := by decide +kernel
theorem dX1_remember_19 : decode cX1_remember 19 = .ok (.iload 4, 2) := by decide +kernel
theorem dX1_remember_21 : decode cX1_remember 21 = .ok (.aload_n 0, 1) := by decide +kernel
theorem dX1_remember_22 : decode cX1_remember 22 = .ok (.getfield 11, 3) := by decide +kernel
theorem dX1_remember_25 : decode cX1_remember 25 = .ok (.iload 4, 2) := by decide +kernel
theorem dX1_remember_27 : decode cX1_remember 27 = .ok (.iconst 1, 1) := by decide +kernel
theorem dX1_remember_28 : decode cX1_remember 28 = .ok (.isub, 1) := by decide +kernel
theorem dX1_remember_29 : decode cX1_remember 29 = .ok (.aaload, 1) := by decide +kernel
theorem dX1_remember_30 : decode cX1_remember 30 = .ok (.aastore, 1) := by decide +kernel
theorem dX1_remember_31 : decode cX1_remember 31 = .ok (.iinc 4 (-1), 3) := by decide +kernel
theorem dX1_remember_34 : decode cX1_remember 34 = .ok (.goto (-24), 3) := by decide +kernel
theorem dX1_remember_37 : decode cX1_remember 37 = .ok (.aload_n 0, 1) := by decide +kernel
theorem dX1_remember_38 : decode cX1_remember 38 = .ok (.getfield 11, 3) := by decide +kernel
theorem dX1_remember_41 : decode cX1_remember 41 = .ok (.iconst 0, 1) := by decide +kernel
theorem dX1_remember_42 : decode cX1_remember 42 = .ok (.aload_n 3, 1) := by decide +kernel
theorem dX1_remember_43 : decode cX1_remember 43 = .ok (.aastore, 1) := by decide +kernel
theorem dX1_remember_44 : decode cX1_remember 44 = .ok (.aload_n 3, 1) := by decide +kernel
theorem dX1_remember_45 : decode cX1_remember 45 = .ok (.ifnull 9, 3) := by decide +kernel
theorem dX1_remember_48 : decode cX1_remember 48 = .ok (.aload_n 3, 1) := by decide +kernel
theorem dX1_remember_49 : decode cX1_remember 49 = .ok (.aload_n 1, 1) := by decide +kernel
theorem dX1_remember_50 : decode cX1_remember 50 = .ok (.aload_n 2, 1) := by decide +kernel
theorem dX1_remember_51 : decode cX1_remember 51 = .ok (.invokevirtual 22, 3) := by decide +kernel
theorem dX1_remember_54 : decode cX1_remember 54 = .ok (.aload_n 0, 1) := by decide +kernel
theorem dX1_remember_55 : decode cX1_remember 55 = .ok (.aload_n 0, 1) := by decide +kernel
theorem dX1_remember_56 : decode cX1_remember 56 = .ok (.getfield 17, 3) := by decide +kernel
theorem dX1_remember_59 : decode cX1_remember 59 = .ok (.iconst 1, 1) := by decide +kernel
theorem dX1_remember_60 : decode cX1_remember 60 = .ok (.iadd, 1) := by decide +kernel
theorem dX1_remember_61 : decode cX1_remember 61 = .ok (.iconst 4, 1) := by decide +kernel
theorem dX1_remember_62 : decode cX1_remember 62 = .ok (.invokestatic 26, 3) := by decide +kernel
theorem dX1_remember_65 : decode cX1_remember 65 = .ok (.putfield 17, 3) := by decide +kernel
theorem dX1_remember_68 : decode cX1_remember 68 = .ok (.return_, 1) := by decide +kernel
theorem dX1_bringBack_0 : decode cX1_bringBack 0 = .ok (.aload_n 0, 1) := by decide +kernel
theorem dX1_bringBack_1 : decode cX1_bringBack 1 = .ok (.getfield 11, 3) := by decide +kernel
theorem dX1_bringBack_4 : decode cX1_bringBack 4 = .ok (.iconst 0, 1) := by decide +kernel
theorem dX1_bringBack_5 : decode cX1_bringBack 5 = .ok (.aaload, 1) := by decide +kernel
theorem dX1_bringBack_6 : decode cX1_bringBack 6 = .ok (.astore_n 3, 1) := by decide +kernel
theorem dX1_bringBack_7 : decode cX1_bringBack 7 = .ok (.aload_n 3, 1) := by decide +kernel
theorem dX1_bringBack_8 : decode cX1_bringBack 8 = .ok (.ifnull 9, 3) := by decide +kernel
theorem dX1_bringBack_11 : decode cX1_bringBack 11 = .ok (.aload_n 3, 1) := by decide +kernel
theorem dX1_bringBack_12 : decode cX1_bringBack 12 = .ok (.aload_n 1, 1) := by decide +kernel
theorem dX1_bringBack_13 : decode cX1_bringBack 13 = .ok (.aload_n 2, 1) := by decide +kernel
theorem dX1_bringBack_14 : decode cX1_bringBack 14 = .ok (.invokevirtual 32, 3) := by decide +kernel
theorem dX1_bringBack_17 : decode cX1_bringBack 17 = .ok (.iconst 1, 1) := by decide +kernel
theorem dX1_bringBack_18 : decode cX1_bringBack 18 = .ok (.istore 4, 2) := by decide +kernel
theorem dX1_bringBack_20 : decode cX1_bringBack 20 = .ok (.iload 4, 2) := by decide +kernel
theorem dX1_bringBack_22 : decode cX1_bringBack 22 = .ok (.iconst 4, 1) := by decide +kernel
theorem dX1_bringBack_23 : decode cX1_bringBack 23 = .ok (.if_icmp .ge 25, 3) := by decide +kernel
theorem dX1_bringBack_26 : decode cX1_bringBack 26 = .ok (.aload_n 0, 1) := by decide +kernel
theorem dX1_bringBack_27 : decode cX1_bringBack 27 = .ok (.getfield 11, 3) := by decide +kernel
theorem dX1_bringBack_30 : decode cX1_bringBack 30 = .ok (.iload 4, 2) := by decide +kernel
theorem dX1_bringBack_32 : decode cX1_bringBack 32 = .ok (.iconst 1, 1) := by decide +kernel
theorem dX1_bringBack_33 : decode cX1_bringBack 33 = .ok (.isub, 1) := by decide +kernel
theorem dX1_bringBack_34 : decode cX1_bringBack 34 = .ok (.aload_n 0, 1) := by decide +kernel
theorem dX1_bringBack_35 : decode cX1_bringBack 35 = .ok (.getfield 11, 3) := by decide +kernel
theorem dX1_bringBack_38 : decode cX1_bringBack 38 = .ok (.iload 4, 2) := by decide +kernel
theorem dX1_bringBack_40 : decode cX1_bringBack 40 = .ok (.aaload, 1) := by decide +kernel
theorem dX1_bringBack_41 : decode cX1_bringBack 41 = .ok (.aastore, 1) := by decide +kernel
theorem dX1_bringBack_42 : decode cX1_bringBack 42 = .ok (.iinc 4 1, 3) := by decide +kernel
theorem dX1_bringBack_45 : decode cX1_bringBack 45 = .ok (.goto (-25), 3) := by decide +kernel
theorem dX1_bringBack_48 : decode cX1_bringBack 48 = .ok (.aload_n 0, 1) := by decide +kernel
theorem dX1_bringBack_49 : decode cX1_bringBack 49 = .ok (.getfield 11, 3) := by decide +kernel
theorem dX1_bringBack_52 : decode cX1_bringBack 52 = .ok (.iconst 3, 1) := by decide +kernel
theorem dX1_bringBack_53 : decode cX1_bringBack 53 = .ok (.aload_n 3, 1) := by decide +kernel
theorem dX1_bringBack_54 : decode cX1_bringBack 54 = .ok (.aastore, 1) := by decide +kernel
theorem dX1_bringBack_55 : decode cX1_bringBack 55 = .ok (.aload_n 0, 1) := by decide +kernel
theorem dX1_bringBack_56 : decode cX1_bringBack 56 = .ok (.aload_n 0, 1) := by decide +kernel
theorem dX1_bringBack_57 : decode cX1_bringBack 57 = .ok (.getfield 17, 3) := by decide +kernel
theorem dX1_bringBack_60 : decode cX1_bringBack 60 = .ok (.iconst 1, 1) := by decide +kernel
theorem dX1_bringBack_61 : decode cX1_bringBack 61 = .ok (.isub, 1) := by decide +kernel
theorem dX1_bringBack_62 : decode cX1_bringBack 62 = .ok (.iconst 0, 1) := by decide +kernel
theorem dX1_bringBack_63 : decode cX1_bringBack 63 = .ok (.invokestatic 35, 3) := by decide +kernel
theorem dX1_bringBack_66 : decode cX1_bringBack 66 = .ok (.putfield 17, 3) := by decide +kernel
theorem dX1_bringBack_69 : decode cX1_bringBack 69 = .ok (.return_, 1) := by decide +kernel
theorem k_X1_init_21 : aKI mX1_init mX4_init 21 0 := ⟨cb_X4_init, rfl, rfl, (Or.inr ⟨_, mn_X1_21⟩), iv_X4_init, rfl, ⟨Nat.le_of_ble_eq_true rfl, Nat.le_of_ble_eq_true rfl⟩⟩
theorem k_X1_remember_22 : aKV mX1_remember mX4_take 22 2 4 := ⟨cb_X4_take, rfl, ml_X1_22, iv_X4_take, sl_X4_take, ⟨_, _, rfl⟩, ⟨Nat.le_of_ble_eq_true rfl, Nat.le_of_ble_eq_true rfl⟩⟩
theorem k_X1_bringBack_32 : aKV mX1_bringBack mX4_give 32 2 4 := ⟨cb_X4_give, rfl, ml_X1_32, iv_X4_give, sl_X4_give, ⟨_, _, rfl⟩, ⟨Nat.le_of_ble_eq_true rfl, Nat.le_of_ble_eq_true rfl⟩⟩
/-! ===== History ===== -/
abbrev aHi (b z : Nat) (s0 s1 s2 s3 : sT) : List aCell := [aOb 1 [.ref (b + 1), .int (nI z)], aRa [some (b + 2), some (b + 11), some (b + 20), some (b + 29)]] ++ (aSn (b + 2) s0 ++ (aSn (b + 11) s1 ++ (aSn (b + 20) s2 ++ aSn (b + 29) s3)))
abbrev rsH : List Nat := [0, 1, 38, 39, 40, 41, 42, 43, 44, 45]
section HST
variable {l : Launch} {X : aX} {z : Nat} {s0 s1 s2 s3 t : sT}
set_option maxRecDepth 20000 in
theorem c_X1_clear : aWr l X mX1_clear [0, 1] [.ref 0] (aHi 0 z s0 s1 s2 s3) none (aHi 0 0 s0 s1 s2 s3) := by
  refine aMt.of (by decide) rfl (Nat.le_of_ble_eq_true rfl) ?_
  refine a_aload_n dX1_clear_0 rfl ?_
  refine a_iconst 0 dX1_clear_1 (by decide) ?_
  refine a_put fp_X1_17 dX1_clear_2 rfl (Nat.le_of_ble_eq_true rfl) (fun _ => ⟨rfl, rfl⟩) ?_
  refine a_vret rfl dX1_clear_5 (by decide) (by decide) ?_
  exact ⟨rfl, rfl⟩
theorem c_X1_size : aRd l X mX1_size [0, 1] [.ref 0] (aHi 0 z s0 s1 s2 s3) (.int (nI z)) := by
  refine aMt.of (by decide) rfl (Nat.le_of_ble_eq_true rfl) ?_
  refine a_aload_n dX1_size_0 rfl ?_
  refine a_get fl_X1_17 dX1_size_1 rfl rfl ?_
  refine a_iret rfl dX1_size_4 (by decide) (by decide) ?_
  exact ⟨rfl, rfl⟩
set_option maxRecDepth 20000 in
theorem c_X1_init : aWr l X mX1_init [0] [.ref 0] [aOb 1 [.null, .int 0]] none (aHi 0 0 s0T s0T s0T s0T) := by
  refine aMt.of (by decide) rfl (Nat.le_of_ble_eq_true rfl) ?_
  refine a_aload_n dX1_init_0 rfl ?_
  refine a_objInit ml_X1_3 oi_iv oi_cd dX1_init_1 (by decide) (Nat.le_of_ble_eq_true rfl) ?_
  refine a_aload_n dX1_init_4 rfl ?_
  refine a_iconst 4 dX1_init_5 (by decide) ?_
  refine a_newr 4 kl_X1_9 (by decide) (by decide) (by decide) dX1_init_6 rfl (by decide) (by decide) ?_
  refine a_putF fp_X1_11 rfl dX1_init_9 rfl (Nat.le_of_ble_eq_true rfl) (fun _ => ⟨rfl, rfl⟩) ?_
  refine a_aload_n dX1_init_12 rfl ?_
  refine a_iconst 0 dX1_init_13 (by decide) ?_
  refine a_put fp_X1_17 dX1_init_14 rfl (Nat.le_of_ble_eq_true rfl) (fun _ => ⟨rfl, rfl⟩) ?_
  refine a_iconst 0 dX1_init_17 (by decide) ?_
  refine a_istore_n dX1_init_18 (by decide) rfl ?_
  refine a_iload_n dX1_init_19 rfl ?_
  refine a_iconst 4 dX1_init_20 (by decide) ?_
  refine a_icmp_ge 43 dX1_init_21 (by decide) (fun z => absurd z (by decide)) (fun _ => ?_)
  refine a_aload_n dX1_init_24 rfl ?_
  refine a_get fl_X1_11 dX1_init_25 rfl rfl ?_
  refine a_iload_n dX1_init_28 rfl ?_
  refine a_new (ci := 4) (fs := [.null, .null]) rfl u_X4 tyX4_ok kl_X1_9 ins_X4 ini_X4 dX1_init_29 (fun j hj => by first | (match j, hj with | 0, _ => rfl | 1, _ => rfl)) (fun _ => rfl) rfl (by decide) (by decide) ?_
  refine a_dup dX1_init_32 rfl ?_
  refine a_IvW [2] (_) k_X1_init_21 (c_X4_init) dX1_init_33 rfl rfl rfl rfl rfl (Nat.le_of_ble_eq_true rfl) ⟨Nat.le_of_ble_eq_true rfl, Nat.le_of_ble_eq_true rfl⟩ (Nat.le_of_ble_eq_true rfl) rfl ?_
  refine a_aast (j := 0) dX1_init_36 rfl rfl (vpD (by decide)) (by decide) ?_
  refine a_iinc 1 dX1_init_37 rfl (by decide) (by decide) rfl ?_
  refine a_goto 19 dX1_init_40 (by decide) ?_
  refine a_iload_n dX1_init_19 rfl ?_
  refine a_iconst 4 dX1_init_20 (by decide) ?_
  refine a_icmp_ge 43 dX1_init_21 (by decide) (fun z => absurd z (by decide)) (fun _ => ?_)
  refine a_aload_n dX1_init_24 rfl ?_
  refine a_get fl_X1_11 dX1_init_25 rfl rfl ?_
  refine a_iload_n dX1_init_28 rfl ?_
  refine a_new (ci := 4) (fs := [.null, .null]) rfl u_X4 tyX4_ok kl_X1_9 ins_X4 ini_X4 dX1_init_29 (fun j hj => by first | (match j, hj with | 0, _ => rfl | 1, _ => rfl)) (fun _ => rfl) rfl (by decide) (by decide) ?_
  refine a_dup dX1_init_32 rfl ?_
  refine a_IvW [11] (_) k_X1_init_21 (c_X4_init) dX1_init_33 rfl rfl rfl rfl rfl (Nat.le_of_ble_eq_true rfl) ⟨Nat.le_of_ble_eq_true rfl, Nat.le_of_ble_eq_true rfl⟩ (Nat.le_of_ble_eq_true rfl) rfl ?_
  refine a_aast (j := 1) dX1_init_36 rfl rfl (vpD (by decide)) (by decide) ?_
  refine a_iinc 2 dX1_init_37 rfl (by decide) (by decide) rfl ?_
  refine a_goto 19 dX1_init_40 (by decide) ?_
  refine a_iload_n dX1_init_19 rfl ?_
  refine a_iconst 4 dX1_init_20 (by decide) ?_
  refine a_icmp_ge 43 dX1_init_21 (by decide) (fun z => absurd z (by decide)) (fun _ => ?_)
  refine a_aload_n dX1_init_24 rfl ?_
  refine a_get fl_X1_11 dX1_init_25 rfl rfl ?_
  refine a_iload_n dX1_init_28 rfl ?_
  refine a_new (ci := 4) (fs := [.null, .null]) rfl u_X4 tyX4_ok kl_X1_9 ins_X4 ini_X4 dX1_init_29 (fun j hj => by first | (match j, hj with | 0, _ => rfl | 1, _ => rfl)) (fun _ => rfl) rfl (by decide) (by decide) ?_
  refine a_dup dX1_init_32 rfl ?_
  refine a_IvW [20] (_) k_X1_init_21 (c_X4_init) dX1_init_33 rfl rfl rfl rfl rfl (Nat.le_of_ble_eq_true rfl) ⟨Nat.le_of_ble_eq_true rfl, Nat.le_of_ble_eq_true rfl⟩ (Nat.le_of_ble_eq_true rfl) rfl ?_
  refine a_aast (j := 2) dX1_init_36 rfl rfl (vpD (by decide)) (by decide) ?_
  refine a_iinc 3 dX1_init_37 rfl (by decide) (by decide) rfl ?_
  refine a_goto 19 dX1_init_40 (by decide) ?_
  refine a_iload_n dX1_init_19 rfl ?_
  refine a_iconst 4 dX1_init_20 (by decide) ?_
  refine a_icmp_ge 43 dX1_init_21 (by decide) (fun z => absurd z (by decide)) (fun _ => ?_)
  refine a_aload_n dX1_init_24 rfl ?_
  refine a_get fl_X1_11 dX1_init_25 rfl rfl ?_
  refine a_iload_n dX1_init_28 rfl ?_
  refine a_new (ci := 4) (fs := [.null, .null]) rfl u_X4 tyX4_ok kl_X1_9 ins_X4 ini_X4 dX1_init_29 (fun j hj => by first | (match j, hj with | 0, _ => rfl | 1, _ => rfl)) (fun _ => rfl) rfl (by decide) (by decide) ?_
  refine a_dup dX1_init_32 rfl ?_
  refine a_IvW [29] (_) k_X1_init_21 (c_X4_init) dX1_init_33 rfl rfl rfl rfl rfl (Nat.le_of_ble_eq_true rfl) ⟨Nat.le_of_ble_eq_true rfl, Nat.le_of_ble_eq_true rfl⟩ (Nat.le_of_ble_eq_true rfl) rfl ?_
  refine a_aast (j := 3) dX1_init_36 rfl rfl (vpD (by decide)) (by decide) ?_
  refine a_iinc 4 dX1_init_37 rfl (by decide) (by decide) rfl ?_
  refine a_goto 19 dX1_init_40 (by decide) ?_
  refine a_iload_n dX1_init_19 rfl ?_
  refine a_iconst 4 dX1_init_20 (by decide) ?_
  refine a_icmp_ge 43 dX1_init_21 (by decide) (fun _ => ?_) (fun z => absurd (by decide) z)
  refine a_vret rfl dX1_init_43 (by decide) (by decide) ?_
  exact ⟨rfl, rfl⟩
set_option maxRecDepth 20000 in
theorem c_X1_remember (hz4 : z ≤ 4) (hz : sBo t) : aWr l X mX1_remember rsH [.ref 0, .ref 38, .ref 43] (aHi 0 z s0 s1 s2 s3 ++ aFP 38 t) none (aHi 0 (if z < 4 then z + 1 else 4) (sCp t s3) s0 s1 s2 ++ aFP 38 t) := by
  refine aMt.of (by decide) rfl (Nat.le_of_ble_eq_true rfl) ?_
  refine a_aload_n dX1_remember_0 rfl ?_
  refine a_get fl_X1_11 dX1_remember_1 rfl rfl ?_
  refine a_iconst 3 dX1_remember_4 (by decide) ?_
  refine a_aald (j := 3) dX1_remember_5 rfl (vpD (by decide)) (by decide) rfl ?_
  refine a_astore_n dX1_remember_6 (by decide) rfl ?_
  refine a_iconst 3 dX1_remember_7 (by decide) ?_
  refine a_istore dX1_remember_8 (by decide) rfl ?_
  refine a_iload dX1_remember_10 rfl ?_
  refine a_if_le 37 dX1_remember_12 (by decide) (fun z => absurd z (by decide)) (fun _ => ?_)
  refine a_aload_n dX1_remember_15 rfl ?_
  refine a_get fl_X1_11 dX1_remember_16 rfl rfl ?_
  refine a_iload dX1_remember_19 rfl ?_
  refine a_aload_n dX1_remember_21 rfl ?_
  refine a_get fl_X1_11 dX1_remember_22 rfl rfl ?_
  refine a_iload dX1_remember_25 rfl ?_
  refine a_iconst 1 dX1_remember_27 (by decide) ?_
  refine a_isub dX1_remember_28 ?_
  refine a_aald (j := 2) dX1_remember_29 rfl (vpD (by decide)) (by decide) rfl ?_
  refine a_aast (j := 3) dX1_remember_30 rfl rfl (vpD (by decide)) (by decide) ?_
  refine a_iinc 2 dX1_remember_31 rfl (by decide) (by decide) rfl ?_
  refine a_goto 10 dX1_remember_34 (by decide) ?_
  refine a_iload dX1_remember_10 rfl ?_
  refine a_if_le 37 dX1_remember_12 (by decide) (fun z => absurd z (by decide)) (fun _ => ?_)
  refine a_aload_n dX1_remember_15 rfl ?_
  refine a_get fl_X1_11 dX1_remember_16 rfl rfl ?_
  refine a_iload dX1_remember_19 rfl ?_
  refine a_aload_n dX1_remember_21 rfl ?_
  refine a_get fl_X1_11 dX1_remember_22 rfl rfl ?_
  refine a_iload dX1_remember_25 rfl ?_
  refine a_iconst 1 dX1_remember_27 (by decide) ?_
  refine a_isub dX1_remember_28 ?_
  refine a_aald (j := 1) dX1_remember_29 rfl (vpD (by decide)) (by decide) rfl ?_
  refine a_aast (j := 2) dX1_remember_30 rfl rfl (vpD (by decide)) (by decide) ?_
  refine a_iinc 1 dX1_remember_31 rfl (by decide) (by decide) rfl ?_
  refine a_goto 10 dX1_remember_34 (by decide) ?_
  refine a_iload dX1_remember_10 rfl ?_
  refine a_if_le 37 dX1_remember_12 (by decide) (fun z => absurd z (by decide)) (fun _ => ?_)
  refine a_aload_n dX1_remember_15 rfl ?_
  refine a_get fl_X1_11 dX1_remember_16 rfl rfl ?_
  refine a_iload dX1_remember_19 rfl ?_
  refine a_aload_n dX1_remember_21 rfl ?_
  refine a_get fl_X1_11 dX1_remember_22 rfl rfl ?_
  refine a_iload dX1_remember_25 rfl ?_
  refine a_iconst 1 dX1_remember_27 (by decide) ?_
  refine a_isub dX1_remember_28 ?_
  refine a_aald (j := 0) dX1_remember_29 rfl (vpD (by decide)) (by decide) rfl ?_
  refine a_aast (j := 1) dX1_remember_30 rfl rfl (vpD (by decide)) (by decide) ?_
  refine a_iinc 0 dX1_remember_31 rfl (by decide) (by decide) rfl ?_
  refine a_goto 10 dX1_remember_34 (by decide) ?_
  refine a_iload dX1_remember_10 rfl ?_
  refine a_if_le 37 dX1_remember_12 (by decide) (fun _ => ?_) (fun z => absurd (by decide) z)
  refine a_aload_n dX1_remember_37 rfl ?_
  refine a_get fl_X1_11 dX1_remember_38 rfl rfl ?_
  refine a_iconst 0 dX1_remember_41 (by decide) ?_
  refine a_aload_n dX1_remember_42 rfl ?_
  refine a_aast (j := 0) dX1_remember_43 rfl rfl (vpD (by decide)) (by decide) ?_
  refine a_aload_n dX1_remember_44 rfl ?_
  refine a_ifnull dX1_remember_45 ?_
  refine a_aload_n dX1_remember_48 rfl ?_
  refine a_aload_n dX1_remember_49 rfl ?_
  refine a_aload_n dX1_remember_50 rfl ?_
  refine a_VvW [29, 30, 31, 32, 33, 34, 35, 36, 37, 38, 39, 40, 41, 42, 43, 44, 45] (_) k_X1_remember_22 (c_X4_take (s := s3) (t := t) hz) dX1_remember_51 rfl rfl rfl rfl rfl rfl (Nat.le_of_ble_eq_true rfl) ⟨Nat.le_of_ble_eq_true rfl, Nat.le_of_ble_eq_true rfl⟩ ⟨rfl, rfl⟩ (Nat.le_of_ble_eq_true rfl) rfl ?_
  refine a_aload_n dX1_remember_54 rfl ?_
  refine a_aload_n dX1_remember_55 rfl ?_
  refine a_get fl_X1_17 dX1_remember_56 rfl rfl ?_
  refine a_iconst 1 dX1_remember_59 (by decide) ?_
  refine a_iadd dX1_remember_60 ?_
  refine a_iconst 4 dX1_remember_61 (by decide) ?_
  refine a_min mm_X1_26 mt_min_st ini_J9 mt_min_cd dX1_remember_62 (by decide) (Nat.le_of_ble_eq_true rfl) (by decide) (by decide) ?_
  have hmin : (if (4 : Int32) < nI z + 1 then (4 : Int32) else nI z + 1) = nI (if z < 4 then z + 1 else 4) := by
    rw [nI_1]
    rcases Nat.lt_or_ge z 4 with q | q
    · rw [if_neg (show ¬ (4 : Int32) < nI (z + 1) from nI_nlt (b := z + 1) (a := 4) (by omega) (by decide)), if_pos q]
    · obtain rfl : z = 4 := by omega
      decide
  rw [hmin]
  refine a_put fp_X1_17 dX1_remember_65 rfl (Nat.le_of_ble_eq_true rfl) (fun _ => ⟨rfl, rfl⟩) ?_
  refine a_sel (L' := [.ref 0, .ref 38, .ref 43, .ref 2, .int 0]) (st' := []) (h' := aHi 0 (if z < 4 then z + 1 else 4) (sCp t s3) s0 s1 s2 ++ aFP 38 t) [0, 1, 29, 30, 31, 32, 33, 34, 35, 36, 37, 2, 3, 4, 5, 6, 7, 8, 9, 10, 11, 12, 13, 14, 15, 16, 17, 18, 19, 20, 21, 22, 23, 24, 25, 26, 27, 28, 38, 39, 40, 41, 42, 43, 44, 45] rfl rfl rfl rfl rfl ?_
  refine a_vret rfl dX1_remember_68 (by decide) (by decide) ?_
  exact ⟨rfl, rfl⟩
set_option maxRecDepth 20000 in
theorem c_X1_bringBack (h0 : 0 < z) (hz4 : z ≤ 4) (hz : sBo s0) : aWr l X mX1_bringBack rsH [.ref 0, .ref 38, .ref 43] (aHi 0 z s0 s1 s2 s3 ++ aFP 38 t) none (aHi 0 (z - 1) s1 s2 s3 s0 ++ aFP 38 (sCp s0 t)) := by
  refine aMt.of (by decide) rfl (Nat.le_of_ble_eq_true rfl) ?_
  refine a_aload_n dX1_bringBack_0 rfl ?_
  refine a_get fl_X1_11 dX1_bringBack_1 rfl rfl ?_
  refine a_iconst 0 dX1_bringBack_4 (by decide) ?_
  refine a_aald (j := 0) dX1_bringBack_5 rfl (vpD (by decide)) (by decide) rfl ?_
  refine a_astore_n dX1_bringBack_6 (by decide) rfl ?_
  refine a_aload_n dX1_bringBack_7 rfl ?_
  refine a_ifnull dX1_bringBack_8 ?_
  refine a_aload_n dX1_bringBack_11 rfl ?_
  refine a_aload_n dX1_bringBack_12 rfl ?_
  refine a_aload_n dX1_bringBack_13 rfl ?_
  refine a_VvW [2, 3, 4, 5, 6, 7, 8, 9, 10, 38, 39, 40, 41, 42, 43, 44, 45] (_) k_X1_bringBack_32 (c_X4_give (s := s0) (t := t) hz) dX1_bringBack_14 rfl rfl rfl rfl rfl rfl (Nat.le_of_ble_eq_true rfl) ⟨Nat.le_of_ble_eq_true rfl, Nat.le_of_ble_eq_true rfl⟩ ⟨rfl, rfl⟩ (Nat.le_of_ble_eq_true rfl) rfl ?_
  refine a_iconst 1 dX1_bringBack_17 (by decide) ?_
  refine a_istore dX1_bringBack_18 (by decide) rfl ?_
  refine a_iload dX1_bringBack_20 rfl ?_
  refine a_iconst 4 dX1_bringBack_22 (by decide) ?_
  refine a_icmp_ge 48 dX1_bringBack_23 (by decide) (fun z => absurd z (by decide)) (fun _ => ?_)
  refine a_aload_n dX1_bringBack_26 rfl ?_
  refine a_get fl_X1_11 dX1_bringBack_27 rfl rfl ?_
  refine a_iload dX1_bringBack_30 rfl ?_
  refine a_iconst 1 dX1_bringBack_32 (by decide) ?_
  refine a_isub dX1_bringBack_33 ?_
  refine a_aload_n dX1_bringBack_34 rfl ?_
  refine a_get fl_X1_11 dX1_bringBack_35 rfl rfl ?_
  refine a_iload dX1_bringBack_38 rfl ?_
  refine a_aald (j := 1) dX1_bringBack_40 rfl (vpD (by decide)) (by decide) rfl ?_
  refine a_aast (j := 0) dX1_bringBack_41 rfl rfl (vpD (by decide)) (by decide) ?_
  refine a_iinc 2 dX1_bringBack_42 rfl (by decide) (by decide) rfl ?_
  refine a_goto 20 dX1_bringBack_45 (by decide) ?_
  refine a_iload dX1_bringBack_20 rfl ?_
  refine a_iconst 4 dX1_bringBack_22 (by decide) ?_
  refine a_icmp_ge 48 dX1_bringBack_23 (by decide) (fun z => absurd z (by decide)) (fun _ => ?_)
  refine a_aload_n dX1_bringBack_26 rfl ?_
  refine a_get fl_X1_11 dX1_bringBack_27 rfl rfl ?_
  refine a_iload dX1_bringBack_30 rfl ?_
  refine a_iconst 1 dX1_bringBack_32 (by decide) ?_
  refine a_isub dX1_bringBack_33 ?_
  refine a_aload_n dX1_bringBack_34 rfl ?_
  refine a_get fl_X1_11 dX1_bringBack_35 rfl rfl ?_
  refine a_iload dX1_bringBack_38 rfl ?_
  refine a_aald (j := 2) dX1_bringBack_40 rfl (vpD (by decide)) (by decide) rfl ?_
  refine a_aast (j := 1) dX1_bringBack_41 rfl rfl (vpD (by decide)) (by decide) ?_
  refine a_iinc 3 dX1_bringBack_42 rfl (by decide) (by decide) rfl ?_
  refine a_goto 20 dX1_bringBack_45 (by decide) ?_
  refine a_iload dX1_bringBack_20 rfl ?_
  refine a_iconst 4 dX1_bringBack_22 (by decide) ?_
  refine a_icmp_ge 48 dX1_bringBack_23 (by decide) (fun z => absurd z (by decide)) (fun _ => ?_)
  refine a_aload_n dX1_bringBack_26 rfl ?_
  refine a_get fl_X1_11 dX1_bringBack_27 rfl rfl ?_
  refine a_iload dX1_bringBack_30 rfl ?_
  refine a_iconst 1 dX1_bringBack_32 (by decide) ?_
  refine a_isub dX1_bringBack_33 ?_
  refine a_aload_n dX1_bringBack_34 rfl ?_
  refine a_get fl_X1_11 dX1_bringBack_35 rfl rfl ?_
  refine a_iload dX1_bringBack_38 rfl ?_
  refine a_aald (j := 3) dX1_bringBack_40 rfl (vpD (by decide)) (by decide) rfl ?_
  refine a_aast (j := 2) dX1_bringBack_41 rfl rfl (vpD (by decide)) (by decide) ?_
  refine a_iinc 4 dX1_bringBack_42 rfl (by decide) (by decide) rfl ?_
  refine a_goto 20 dX1_bringBack_45 (by decide) ?_
  refine a_iload dX1_bringBack_20 rfl ?_
  refine a_iconst 4 dX1_bringBack_22 (by decide) ?_
  refine a_icmp_ge 48 dX1_bringBack_23 (by decide) (fun _ => ?_) (fun z => absurd (by decide) z)
  refine a_aload_n dX1_bringBack_48 rfl ?_
  refine a_get fl_X1_11 dX1_bringBack_49 rfl rfl ?_
  refine a_iconst 3 dX1_bringBack_52 (by decide) ?_
  refine a_aload_n dX1_bringBack_53 rfl ?_
  refine a_aast (j := 3) dX1_bringBack_54 rfl rfl (vpD (by decide)) (by decide) ?_
  refine a_aload_n dX1_bringBack_55 rfl ?_
  refine a_aload_n dX1_bringBack_56 rfl ?_
  refine a_get fl_X1_17 dX1_bringBack_57 rfl rfl ?_
  refine a_iconst 1 dX1_bringBack_60 (by decide) ?_
  refine a_isub dX1_bringBack_61 ?_
  refine a_iconst 0 dX1_bringBack_62 (by decide) ?_
  refine a_max mm_X1_35 mt_max_st ini_J9 mt_max_cd dX1_bringBack_63 (by decide) (Nat.le_of_ble_eq_true rfl) (by decide) (by decide) ?_
  have hmax : (if nI z - 1 < 0 then (0 : Int32) else nI z - 1) = nI (z - 1) := by
    obtain ⟨y, rfl⟩ : ∃ y, z = y + 1 := ⟨z - 1, by omega⟩
    rw [nI_pred, if_neg (nI_pos (by omega))]
    rfl
  rw [hmax]
  refine a_put fp_X1_17 dX1_bringBack_66 rfl (Nat.le_of_ble_eq_true rfl) (fun _ => ⟨rfl, rfl⟩) ?_
  refine a_sel (L' := [.ref 0, .ref 38, .ref 43, .ref 29, .int 4]) (st' := []) (h' := aHi 0 (z - 1) s1 s2 s3 s0 ++ aFP 38 (sCp s0 t)) [0, 1, 11, 12, 13, 14, 15, 16, 17, 18, 19, 20, 21, 22, 23, 24, 25, 26, 27, 28, 29, 30, 31, 32, 33, 34, 35, 36, 37, 2, 3, 4, 5, 6, 7, 8, 9, 10, 38, 39, 40, 41, 42, 43, 44, 45] rfl rfl rfl rfl rfl ?_
  refine a_vret rfl dX1_bringBack_69 (by decide) (by decide) ?_
  exact ⟨rfl, rfl⟩
end HST
