/-! written by wip/whole/pp.py out of wip/whole/src/20.hist.lean -/
theorem dX3_init_0 : decode cX3_init 0 = .ok (.aload_n 0, 1) := by decide +kernel
theorem dX3_init_1 : decode cX3_init 1 = .ok (.invokespecial 3, 3) := by decide +kernel
theorem dX3_init_4 : decode cX3_init 4 = .ok (.aload_n 0, 1) := by decide +kernel
theorem dX3_init_5 : decode cX3_init 5 = .ok (.bipush 61, 2) := by decide +kernel
theorem dX3_init_7 : decode cX3_init 7 = .ok (.newarray .int, 2) := by decide +kernel
theorem dX3_init_9 : decode cX3_init 9 = .ok (.putfield 9, 3) := by decide +kernel
theorem dX3_init_12 : decode cX3_init 12 = .ok (.aload_n 0, 1) := by decide +kernel
theorem dX3_init_13 : decode cX3_init 13 = .ok (.bipush 61, 2) := by decide +kernel
theorem dX3_init_15 : decode cX3_init 15 = .ok (.newarray .int, 2) := by decide +kernel
theorem dX3_init_17 : decode cX3_init 17 = .ok (.putfield 15, 3) := by decide +kernel
theorem dX3_init_20 : decode cX3_init 20 = .ok (.aload_n 0, 1) := by decide +kernel
theorem dX3_init_21 : decode cX3_init 21 = .ok (.bipush 10, 2) := by decide +kernel
theorem dX3_init_23 : decode cX3_init 23 = .ok (.newarray .int, 2) := by decide +kernel
theorem dX3_init_25 : decode cX3_init 25 = .ok (.putfield 18, 3) := by decide +kernel
theorem dX3_init_28 : decode cX3_init 28 = .ok (.aload_n 0, 1) := by decide +kernel
theorem dX3_init_29 : decode cX3_init 29 = .ok (.iload_n 1, 1) := by decide +kernel
theorem dX3_init_30 : decode cX3_init 30 = .ok (.invokevirtual 21, 3) := by decide +kernel
theorem dX3_init_33 : decode cX3_init 33 = .ok (.return_, 1) := by decide +kernel
theorem dX3_startAnew_0 : decode cX3_startAnew 0 = .ok (.aload_n 0, 1) := by decide +kernel
theorem dX3_startAnew_1 : decode cX3_startAnew 1 = .ok (.iload_n 1, 1) := by decide +kernel
theorem dX3_startAnew_2 : decode cX3_startAnew 2 = .ok (.bipush 61, 2) := by decide +kernel
theorem dX3_startAnew_4 : decode cX3_startAnew 4 = .ok (.invokestatic 25, 3) := by decide +kernel
theorem dX3_startAnew_7 : decode cX3_startAnew 7 = .ok (.putfield 31, 3) := by decide +kernel
theorem dX3_startAnew_10 : decode cX3_startAnew 10 = .ok (.aload_n 0, 1) := by decide +kernel
theorem dX3_startAnew_11 : decode cX3_startAnew 11 = .ok (.getfield 9, 3) := by decide +kernel
theorem dX3_startAnew_14 : decode cX3_startAnew 14 = .ok (.iconst (-1), 1) := by decide +kernel
theorem dX3_startAnew_15 : decode cX3_startAnew 15 = .ok (.invokestatic 35, 3) := by decide +kernel
theorem dX3_startAnew_18 : decode cX3_startAnew 18 = .ok (.aload_n 0, 1) := by decide +kernel
theorem dX3_startAnew_19 : decode cX3_startAnew 19 = .ok (.iconst 0, 1) := by decide +kernel
theorem dX3_startAnew_20 : decode cX3_startAnew 20 = .ok (.putfield 41, 3) := by decide +kernel
theorem dX3_startAnew_23 : decode cX3_startAnew 23 = .ok (.aload_n 0, 1) := by decide +kernel
theorem dX3_startAnew_24 : decode cX3_startAnew 24 = .ok (.iconst 0, 1) := by decide +kernel
theorem dX3_startAnew_25 : decode cX3_startAnew 25 = .ok (.putfield 44, 3) := by decide +kernel
theorem dX3_startAnew_28 : decode cX3_startAnew 28 = .ok (.return_, 1) := by decide +kernel
theorem dX3_rebuild_0 : decode cX3_rebuild 0 = .ok (.aload_n 0, 1) := by decide +kernel
theorem dX3_rebuild_1 : decode cX3_rebuild 1 = .ok (.aload_n 1, 1) := by decide +kernel
theorem dX3_rebuild_2 : decode cX3_rebuild 2 = .ok (.iconst (-1), 1) := by decide +kernel
theorem dX3_rebuild_3 : decode cX3_rebuild 3 = .ok (.invokevirtual 61, 3) := by decide +kernel
theorem dX3_rebuild_6 : decode cX3_rebuild 6 = .ok (.aload_n 0, 1) := by decide +kernel
theorem dX3_rebuild_7 : decode cX3_rebuild 7 = .ok (.aload_n 0, 1) := by decide +kernel
theorem dX3_rebuild_8 : decode cX3_rebuild 8 = .ok (.invokevirtual 65, 3) := by decide +kernel
theorem dX3_rebuild_11 : decode cX3_rebuild 11 = .ok (.putfield 41, 3) := by decide +kernel
theorem dX3_rebuild_14 : decode cX3_rebuild 14 = .ok (.aload_n 0, 1) := by decide +kernel
theorem dX3_rebuild_15 : decode cX3_rebuild 15 = .ok (.aload_n 0, 1) := by decide +kernel
theorem dX3_rebuild_16 : decode cX3_rebuild 16 = .ok (.aload_n 1, 1) := by decide +kernel
theorem dX3_rebuild_17 : decode cX3_rebuild 17 = .ok (.invokevirtual 69, 3) := by decide +kernel
theorem dX3_rebuild_20 : decode cX3_rebuild 20 = .ok (.putfield 44, 3) := by decide +kernel
theorem dX3_rebuild_23 : decode cX3_rebuild 23 = .ok (.aload_n 0, 1) := by decide +kernel
theorem dX3_rebuild_24 : decode cX3_rebuild 24 = .ok (.getfield 9, 3) := by decide +kernel
theorem dX3_rebuild_27 : decode cX3_rebuild 27 = .ok (.astore_n 2, 1) := by decide +kernel
theorem dX3_rebuild_28 : decode cX3_rebuild 28 = .ok (.aload_n 0, 1) := by decide +kernel
theorem dX3_rebuild_29 : decode cX3_rebuild 29 = .ok (.aload_n 0, 1) := by decide +kernel
theorem dX3_rebuild_30 : decode cX3_rebuild 30 = .ok (.getfield 15, 3) := by decide +kernel
theorem dX3_rebuild_33 : decode cX3_rebuild 33 = .ok (.putfield 9, 3) := by decide +kernel
theorem dX3_rebuild_36 : decode cX3_rebuild 36 = .ok (.aload_n 0, 1) := by decide +kernel
theorem dX3_rebuild_37 : decode cX3_rebuild 37 = .ok (.aload_n 2, 1) := by decide +kernel
theorem dX3_rebuild_38 : decode cX3_rebuild 38 = .ok (.putfield 15, 3) := by decide +kernel
theorem dX3_rebuild_41 : decode cX3_rebuild 41 = .ok (.return_, 1) := by decide +kernel
theorem dX3_changedWithout_0 : decode cX3_changedWithout 0 = .ok (.aload_n 0, 1) := by decide +kernel
theorem dX3_changedWithout_1 : decode cX3_changedWithout 1 = .ok (.aload_n 1, 1) := by decide +kernel
theorem dX3_changedWithout_2 : decode cX3_changedWithout 2 = .ok (.iload_n 2, 1) := by decide +kernel
theorem dX3_changedWithout_3 : decode cX3_changedWithout 3 = .ok (.invokevirtual 61, 3) := by decide +kernel
theorem dX3_changedWithout_6 : decode cX3_changedWithout 6 = .ok (.aload_n 0, 1) := by decide +kernel
theorem dX3_changedWithout_7 : decode cX3_changedWithout 7 = .ok (.invokevirtual 65, 3) := by decide +kernel
theorem dX3_changedWithout_10 : decode cX3_changedWithout 10 = .ok (.ireturn, 1) := by decide +kernel
theorem dX4_init_0 : decode cX4_init 0 = .ok (.aload_n 0, 1) := by decide +kernel
theorem dX4_init_1 : decode cX4_init 1 = .ok (.invokespecial 1, 3) := by decide +kernel
theorem dX4_init_4 : decode cX4_init 4 = .ok (.aload_n 0, 1) := by decide +kernel
theorem dX4_init_5 : decode cX4_init 5 = .ok (.new 7, 3) := by decide +kernel
theorem dX4_init_8 : decode cX4_init 8 = .ok (.dup, 1) := by decide +kernel
theorem dX4_init_9 : decode cX4_init 9 = .ok (.invokespecial 9, 3) := by decide +kernel
theorem dX4_init_12 : decode cX4_init 12 = .ok (.putfield 10, 3) := by decide +kernel
theorem dX4_init_15 : decode cX4_init 15 = .ok (.aload_n 0, 1) := by decide +kernel
theorem dX4_init_16 : decode cX4_init 16 = .ok (.new 16, 3) := by decide +kernel
theorem dX4_init_19 : decode cX4_init 19 = .ok (.dup, 1) := by decide +kernel
theorem dX4_init_20 : decode cX4_init 20 = .ok (.invokespecial 18, 3) := by decide +kernel
theorem dX4_init_23 : decode cX4_init 23 = .ok (.putfield 19, 3) := by decide +kernel
theorem dX4_init_26 : decode cX4_init 26 = .ok (.return_, 1) := by decide +kernel
theorem dX4_take_0 : decode cX4_take 0 = .ok (.aload_n 0, 1) := by decide +kernel
theorem dX4_take_1 : decode cX4_take 1 = .ok (.getfield 10, 3) := by decide +kernel
theorem dX4_take_4 : decode cX4_take 4 = .ok (.aload_n 1, 1) := by decide +kernel
theorem dX4_take_5 : decode cX4_take 5 = .ok (.invokevirtual 23, 3) := by decide +kernel
theorem dX4_take_8 : decode cX4_take 8 = .ok (.aload_n 0, 1) := by decide +kernel
theorem dX4_take_9 : decode cX4_take 9 = .ok (.getfield 19, 3) := by decide +kernel
theorem dX4_take_12 : decode cX4_take 12 = .ok (.aload_n 2, 1) := by decide +kernel
theorem dX4_take_13 : decode cX4_take 13 = .ok (.invokevirtual 27, 3) := by decide +kernel
theorem dX4_take_16 : decode cX4_take 16 = .ok (.return_, 1) := by decide +kernel
theorem dX4_give_0 : decode cX4_give 0 = .ok (.aload_n 1, 1) := by decide +kernel
theorem dX4_give_1 : decode cX4_give 1 = .ok (.aload_n 0, 1) := by decide +kernel
theorem dX4_give_2 : decode cX4_give 2 = .ok (.getfield 10, 3) := by decide +kernel
theorem dX4_give_5 : decode cX4_give 5 = .ok (.invokevirtual 23, 3) := by decide +kernel
theorem dX4_give_8 : decode cX4_give 8 = .ok (.aload_n 2, 1) := by decide +kernel
theorem dX4_give_9 : decode cX4_give 9 = .ok (.aload_n 0, 1) := by decide +kernel
theorem dX4_give_10 : decode cX4_give 10 = .ok (.getfield 19, 3) := by decide +kernel
theorem dX4_give_13 : decode cX4_give 13 = .ok (.invokevirtual 27, 3) := by decide +kernel
theorem dX4_give_16 : decode cX4_give 16 = .ok (.return_, 1) := by decide +kernel
theorem k_X3_startAnew_35 : aKS mX3_startAnew mJ7_fill_53178 35 2 := ⟨cb_J7_fill_53178, rfl, ml_X3_35, st_J7_fill_53178, ⟨Nat.le_of_ble_eq_true rfl, Nat.le_of_ble_eq_true rfl⟩⟩
theorem k_X3_init_21 : aKV mX3_init mX3_startAnew 21 1 3 := ⟨cb_X3_startAnew, rfl, ml_X3_21, iv_X3_startAnew, sl_X3_startAnew, ⟨_, _, rfl⟩, ⟨Nat.le_of_ble_eq_true rfl, Nat.le_of_ble_eq_true rfl⟩⟩
theorem k_X3_rebuild_61 : aKV mX3_rebuild mX3_draw 61 2 3 := ⟨cb_X3_draw, rfl, ml_X3_61, iv_X3_draw, sl_X3_draw, ⟨_, _, rfl⟩, ⟨Nat.le_of_ble_eq_true rfl, Nat.le_of_ble_eq_true rfl⟩⟩
theorem k_X3_rebuild_65 : aKV mX3_rebuild mX3_countChanged 65 0 3 := ⟨cb_X3_countChanged, rfl, ml_X3_65, iv_X3_countChanged, sl_X3_countChanged, ⟨_, _, rfl⟩, ⟨Nat.le_of_ble_eq_true rfl, Nat.le_of_ble_eq_true rfl⟩⟩
theorem k_X3_rebuild_69 : aKV mX3_rebuild mX3_countForced 69 1 3 := ⟨cb_X3_countForced, rfl, ml_X3_69, iv_X3_countForced, sl_X3_countForced, ⟨_, _, rfl⟩, ⟨Nat.le_of_ble_eq_true rfl, Nat.le_of_ble_eq_true rfl⟩⟩
theorem k_X3_changedWithout_61 : aKV mX3_changedWithout mX3_draw 61 2 3 := ⟨cb_X3_draw, rfl, ml_X3_61, iv_X3_draw, sl_X3_draw, ⟨_, _, rfl⟩, ⟨Nat.le_of_ble_eq_true rfl, Nat.le_of_ble_eq_true rfl⟩⟩
theorem k_X3_changedWithout_65 : aKV mX3_changedWithout mX3_countChanged 65 0 3 := ⟨cb_X3_countChanged, rfl, ml_X3_65, iv_X3_countChanged, sl_X3_countChanged, ⟨_, _, rfl⟩, ⟨Nat.le_of_ble_eq_true rfl, Nat.le_of_ble_eq_true rfl⟩⟩
theorem k_X4_init_9 : aKI mX4_init mX0_init 9 0 := ⟨cb_X0_init, rfl, rfl, (Or.inr ⟨_, mn_X4_9⟩), iv_X0_init, rfl, ⟨Nat.le_of_ble_eq_true rfl, Nat.le_of_ble_eq_true rfl⟩⟩
theorem k_X4_init_18 : aKI mX4_init mX2_init 18 0 := ⟨cb_X2_init, rfl, rfl, (Or.inr ⟨_, mn_X4_18⟩), iv_X2_init, rfl, ⟨Nat.le_of_ble_eq_true rfl, Nat.le_of_ble_eq_true rfl⟩⟩
theorem k_X4_take_23 : aKV mX4_take mX0_copyFrom 23 1 0 := ⟨cb_X0_copyFrom, rfl, ml_X4_23, iv_X0_copyFrom, sl_X0_copyFrom, ⟨_, _, rfl⟩, ⟨Nat.le_of_ble_eq_true rfl, Nat.le_of_ble_eq_true rfl⟩⟩
theorem k_X4_take_27 : aKV mX4_take mX2_copyFrom 27 1 2 := ⟨cb_X2_copyFrom, rfl, ml_X4_27, iv_X2_copyFrom, sl_X2_copyFrom, ⟨_, _, rfl⟩, ⟨Nat.le_of_ble_eq_true rfl, Nat.le_of_ble_eq_true rfl⟩⟩
theorem k_X4_give_23 : aKV mX4_give mX0_copyFrom 23 1 0 := ⟨cb_X0_copyFrom, rfl, ml_X4_23, iv_X0_copyFrom, sl_X0_copyFrom, ⟨_, _, rfl⟩, ⟨Nat.le_of_ble_eq_true rfl, Nat.le_of_ble_eq_true rfl⟩⟩
theorem k_X4_give_27 : aKV mX4_give mX2_copyFrom 27 1 2 := ⟨cb_X2_copyFrom, rfl, ml_X4_27, iv_X2_copyFrom, sl_X2_copyFrom, ⟨_, _, rfl⟩, ⟨Nat.le_of_ble_eq_true rfl, Nat.le_of_ble_eq_true rfl⟩⟩
/-! ===== SlotTable: rebuild; Snapshot, History ===== -/
theorem vpD {i : Int32} {n : Nat} (h : decide (¬ (i < 0 ∨ n ≤ i.toNatClampNeg)) = true) : vp_in i n := by unfold vp_in; exact of_decide_eq_true h
section RBD
variable {l : Launch} {X : aX} {M : Nat} {ow dr tr : Nat → Int32} {ch fo : Int32}
theorem c_X3_startAnew (n : Nat) (hn : n ≤ 61) : aWr l X mX3_startAnew rs4 [.ref 0, .int (nI n)] (aSl M ow dr tr ch fo) none (aSl n (fFl 61 (fun _ => -1) ow) dr tr 0 0) := by
  refine aMt.of (by decide) rfl (Nat.le_of_ble_eq_true rfl) ?_
  refine a_aload_n dX3_startAnew_0 rfl ?_
  refine a_iload_n dX3_startAnew_1 rfl ?_
  refine a_bipush 61 dX3_startAnew_2 (by decide) ?_
  refine a_min mm_X3_25 mt_min_st ini_J9 mt_min_cd dX3_startAnew_4 (by decide) (Nat.le_of_ble_eq_true rfl) (by decide) (by decide) ?_
  rw [if_neg (show ¬ (61 : Int32) < nI n from nI_nlt (a := 61) hn (by decide))]
  refine a_put fp_X3_31 dX3_startAnew_7 rfl (Nat.le_of_ble_eq_true rfl) (fun _ => ⟨rfl, rfl⟩) ?_
  refine a_aload_n dX3_startAnew_10 rfl ?_
  refine a_get fl_X3_9 dX3_startAnew_11 rfl rfl ?_
  refine a_iconst (-1) dX3_startAnew_14 (by decide) ?_
  refine a_SvW [1] ([aOb 3 [.int (nI n), .ref 1, .ref 2, .ref 3, .int ch, .int fo], aIa 61 (fFl 61 (fun _ => -1) ow), aIa 61 dr, aIa 10 tr]) k_X3_startAnew_35 (c_J7_fill 61 (by decide) ow (-1)) dX3_startAnew_15 rfl rfl rfl rfl rfl (Nat.le_of_ble_eq_true rfl) ⟨Nat.le_of_ble_eq_true rfl, Nat.le_of_ble_eq_true rfl⟩ ⟨rfl, rfl⟩ (Nat.le_of_ble_eq_true rfl) rfl ?_
  refine a_aload_n dX3_startAnew_18 rfl ?_
  refine a_iconst 0 dX3_startAnew_19 (by decide) ?_
  refine a_put fp_X3_41 dX3_startAnew_20 rfl (Nat.le_of_ble_eq_true rfl) (fun _ => ⟨rfl, rfl⟩) ?_
  refine a_aload_n dX3_startAnew_23 rfl ?_
  refine a_iconst 0 dX3_startAnew_24 (by decide) ?_
  refine a_put fp_X3_44 dX3_startAnew_25 rfl (Nat.le_of_ble_eq_true rfl) (fun _ => ⟨rfl, rfl⟩) ?_
  refine a_vret rfl dX3_startAnew_28 (by decide) (by decide) ?_
  exact ⟨rfl, rfl⟩
theorem c_X3_init (n : Nat) (hn : n ≤ 61) : aWr l X mX3_init [0] [.ref 0, .int (nI n)] [aOb 3 [.int 0, .null, .null, .null, .int 0, .int 0]] none (aSl n (fFl 61 (fun _ => -1) (fun _ => 0)) (fun _ => 0) (fun _ => 0) 0 0) := by
  refine aMt.of (by decide) rfl (Nat.le_of_ble_eq_true rfl) ?_
  refine a_aload_n dX3_init_0 rfl ?_
  refine a_objInit ml_X3_3 oi_iv oi_cd dX3_init_1 (by decide) (Nat.le_of_ble_eq_true rfl) ?_
  refine a_aload_n dX3_init_4 rfl ?_
  refine a_bipush 61 dX3_init_5 (by decide) ?_
  refine a_newi 61 ar_int (by decide) (by decide) (by decide) dX3_init_7 rfl (by decide) (by decide) ?_
  refine a_put fp_X3_9 dX3_init_9 rfl (Nat.le_of_ble_eq_true rfl) (fun _ => ⟨rfl, rfl⟩) ?_
  refine a_aload_n dX3_init_12 rfl ?_
  refine a_bipush 61 dX3_init_13 (by decide) ?_
  refine a_newi 61 ar_int (by decide) (by decide) (by decide) dX3_init_15 rfl (by decide) (by decide) ?_
  refine a_put fp_X3_15 dX3_init_17 rfl (Nat.le_of_ble_eq_true rfl) (fun _ => ⟨rfl, rfl⟩) ?_
  refine a_aload_n dX3_init_20 rfl ?_
  refine a_bipush 10 dX3_init_21 (by decide) ?_
  refine a_newi 10 ar_int (by decide) (by decide) (by decide) dX3_init_23 rfl (by decide) (by decide) ?_
  refine a_putF fp_X3_18 rfl dX3_init_25 rfl (Nat.le_of_ble_eq_true rfl) (fun _ => ⟨rfl, rfl⟩) ?_
  refine a_aload_n dX3_init_28 rfl ?_
  refine a_iload_n dX3_init_29 rfl ?_
  refine a_VvW [0, 1, 2, 3] (aSl n (fFl 61 (fun _ => -1) (fun _ => 0)) (fun _ => 0) (fun _ => 0) 0 0) k_X3_init_21 (c_X3_startAnew (M := 0) (ow := fun _ => 0) (dr := fun _ => 0) (tr := fun _ => 0) (ch := 0) (fo := 0) n hn) dX3_init_30 rfl rfl rfl rfl rfl rfl (Nat.le_of_ble_eq_true rfl) ⟨Nat.le_of_ble_eq_true rfl, Nat.le_of_ble_eq_true rfl⟩ ⟨rfl, rfl⟩ (Nat.le_of_ble_eq_true rfl) rfl ?_
  refine a_vret rfl dX3_init_33 (by decide) (by decide) ?_
  exact ⟨rfl, rfl⟩
variable {A W : Nat → Nat} {up : Nat → Int32} {ld : Nat → Int64}
abbrev rsR : List Nat := [0, 3, 4, 5, 6, 7, 8]
theorem c_X3_rebuild (h2 : 2 ≤ M) (hM : M ≤ 61) (G : Nat) (hG : fGw (fun j => nI (A j)) (fun j => nI (W j)) up (-1) = nI G) (hG16 : G ≤ 16) (hA : ∀ j, j < 10 → A j ≤ 9999) (hW : ∀ j, j < 10 → W j ≤ 16) {D : dT} (hD : dDr M A W (fun j => nI (A j)) up (-1) G dr tr = D) :
    aWr l X mX3_rebuild rsR [.ref 0, .ref 4] (aSF M ow dr tr ch fo (fun j => nI (A j)) (fun j => nI (W j)) up ld) none (aSF M D.1 ow D.2.1 (sCc ow D.1 M) (sCf ow (fun j => nI (A j)) up M) (fun j => nI (A j)) (fun j => nI (W j)) up ld) := by
  refine aMt.of (by decide) rfl (Nat.le_of_ble_eq_true rfl) ?_
  have hdr := c_X3_draw (l := l) (X := X) (ow := ow) (dr := dr) (tr := tr) (ch := ch) (fo := fo) (ld := ld) h2 hM (-1) G hG hG16 hA hW
  rw [hD] at hdr
  refine a_aload_n dX3_rebuild_0 rfl ?_
  refine a_aload_n dX3_rebuild_1 rfl ?_
  refine a_iconst (-1) dX3_rebuild_2 (by decide) ?_
  refine a_VvW [0, 1, 2, 3, 4, 5, 6, 7, 8] (aSF M ow D.1 D.2.1 ch fo (fun j => nI (A j)) (fun j => nI (W j)) up ld) k_X3_rebuild_61 (hdr) dX3_rebuild_3 rfl rfl rfl rfl rfl rfl (Nat.le_of_ble_eq_true rfl) ⟨Nat.le_of_ble_eq_true rfl, Nat.le_of_ble_eq_true rfl⟩ ⟨rfl, rfl⟩ (Nat.le_of_ble_eq_true rfl) rfl ?_
  refine a_aload_n dX3_rebuild_6 rfl ?_
  refine a_aload_n dX3_rebuild_7 rfl ?_
  refine a_ViR [0, 1, 2, 3] k_X3_rebuild_65 (c_X3_countChanged (ow := ow) (dr := D.1) (tr := D.2.1) (ch := ch) (fo := fo) hM) dX3_rebuild_8 rfl rfl rfl rfl rfl rfl (Nat.le_of_ble_eq_true rfl) ⟨Nat.le_of_ble_eq_true rfl, Nat.le_of_ble_eq_true rfl⟩ ⟨rfl, rfl⟩ ?_
  refine a_put fp_X3_41 dX3_rebuild_11 rfl (Nat.le_of_ble_eq_true rfl) (fun _ => ⟨rfl, rfl⟩) ?_
  refine a_aload_n dX3_rebuild_14 rfl ?_
  refine a_aload_n dX3_rebuild_15 rfl ?_
  refine a_aload_n dX3_rebuild_16 rfl ?_
  refine a_ViR [0, 1, 2, 3, 4, 5, 6, 7, 8] k_X3_rebuild_69 (c_X3_countForced (ow := ow) (dr := D.1) (tr := D.2.1) (ch := sCc ow D.1 M) (fo := fo) (nm := fun j => nI (A j)) (wt := fun j => nI (W j)) (up := up) (ld := ld) hM) dX3_rebuild_17 rfl rfl rfl rfl rfl rfl (Nat.le_of_ble_eq_true rfl) ⟨Nat.le_of_ble_eq_true rfl, Nat.le_of_ble_eq_true rfl⟩ ⟨rfl, rfl⟩ ?_
  refine a_put fp_X3_44 dX3_rebuild_20 rfl (Nat.le_of_ble_eq_true rfl) (fun _ => ⟨rfl, rfl⟩) ?_
  refine a_aload_n dX3_rebuild_23 rfl ?_
  refine a_get fl_X3_9 dX3_rebuild_24 rfl rfl ?_
  refine a_astore_n dX3_rebuild_27 (by decide) rfl ?_
  refine a_aload_n dX3_rebuild_28 rfl ?_
  refine a_aload_n dX3_rebuild_29 rfl ?_
  refine a_get fl_X3_15 dX3_rebuild_30 rfl rfl ?_
  refine a_put fp_X3_9 dX3_rebuild_33 rfl (Nat.le_of_ble_eq_true rfl) (fun _ => ⟨rfl, rfl⟩) ?_
  refine a_aload_n dX3_rebuild_36 rfl ?_
  refine a_aload_n dX3_rebuild_37 rfl ?_
  refine a_put fp_X3_15 dX3_rebuild_38 rfl (Nat.le_of_ble_eq_true rfl) (fun _ => ⟨rfl, rfl⟩) ?_
  refine a_sel (L' := [.ref 0, .ref 4, .ref 2]) (st' := []) (h' := aSF M D.1 ow D.2.1 (sCc ow D.1 M) (sCf ow (fun j => nI (A j)) up M) (fun j => nI (A j)) (fun j => nI (W j)) up ld) [0, 2, 1, 3, 4, 5, 6, 7, 8] rfl rfl rfl rfl rfl ?_
  refine a_vret rfl dX3_rebuild_41 (by decide) (by decide) ?_
  exact ⟨rfl, rfl⟩
theorem c_X3_changedWithout (h2 : 2 ≤ M) (hM : M ≤ 61) (lo : Int32) (G : Nat) (hG : fGw (fun j => nI (A j)) (fun j => nI (W j)) up lo = nI G) (hG16 : G ≤ 16) (hA : ∀ j, j < 10 → A j ≤ 9999) (hW : ∀ j, j < 10 → W j ≤ 16) {D : dT} (hD : dDr M A W (fun j => nI (A j)) up lo G dr tr = D) :
    aWr l X mX3_changedWithout rs9 [.ref 0, .ref 4, .int lo] (aSF M ow dr tr ch fo (fun j => nI (A j)) (fun j => nI (W j)) up ld) (some (.int (sCc ow D.1 M))) (aSF M ow D.1 D.2.1 ch fo (fun j => nI (A j)) (fun j => nI (W j)) up ld) := by
  refine aMt.of (by decide) rfl (Nat.le_of_ble_eq_true rfl) ?_
  have hdr := c_X3_draw (l := l) (X := X) (ow := ow) (dr := dr) (tr := tr) (ch := ch) (fo := fo) (ld := ld) h2 hM lo G hG hG16 hA hW
  rw [hD] at hdr
  refine a_aload_n dX3_changedWithout_0 rfl ?_
  refine a_aload_n dX3_changedWithout_1 rfl ?_
  refine a_iload_n dX3_changedWithout_2 rfl ?_
  refine a_VvW [0, 1, 2, 3, 4, 5, 6, 7, 8] (aSF M ow D.1 D.2.1 ch fo (fun j => nI (A j)) (fun j => nI (W j)) up ld) k_X3_changedWithout_61 (hdr) dX3_changedWithout_3 rfl rfl rfl rfl rfl rfl (Nat.le_of_ble_eq_true rfl) ⟨Nat.le_of_ble_eq_true rfl, Nat.le_of_ble_eq_true rfl⟩ ⟨rfl, rfl⟩ (Nat.le_of_ble_eq_true rfl) rfl ?_
  refine a_aload_n dX3_changedWithout_6 rfl ?_
  refine a_ViR [0, 1, 2, 3] k_X3_changedWithout_65 (c_X3_countChanged (ow := ow) (dr := D.1) (tr := D.2.1) (ch := ch) (fo := fo) hM) dX3_changedWithout_7 rfl rfl rfl rfl rfl rfl (Nat.le_of_ble_eq_true rfl) ⟨Nat.le_of_ble_eq_true rfl, Nat.le_of_ble_eq_true rfl⟩ ⟨rfl, rfl⟩ ?_
  refine a_iret rfl dX3_changedWithout_10 (by decide) (by decide) ?_
  exact ⟨rfl, rfl⟩
end RBD
/-- what a snapshot holds: names, weights, ups, loads, pinned keys, their servers, how many -/
abbrev sT : Type := (Nat → Int32) × (Nat → Int32) × (Nat → Int32) × (Nat → Int64) × (Nat → Int32) × (Nat → Int32) × Nat
abbrev aSn (b : Nat) (s : sT) : List aCell := [aOb 4 [.ref (b + 1), .ref (b + 6)], aOb 0 [.ref (b + 2), .ref (b + 3), .ref (b + 4), .ref (b + 5)], aIa 10 s.1, aIa 10 s.2.1, aBa 10 s.2.2.1, aLa 10 s.2.2.2.1, aOb 2 [.ref (b + 7), .ref (b + 8), .int (nI s.2.2.2.2.2.2)], aIa 6 s.2.2.2.2.1, aIa 6 s.2.2.2.2.2.1]
/-- a fleet and pins -/
abbrev aFP (b : Nat) (s : sT) : List aCell := [aOb 0 [.ref (b + 1), .ref (b + 2), .ref (b + 3), .ref (b + 4)], aIa 10 s.1, aIa 10 s.2.1, aBa 10 s.2.2.1, aLa 10 s.2.2.2.1, aOb 2 [.ref (b + 6), .ref (b + 7), .int (nI s.2.2.2.2.2.2)], aIa 6 s.2.2.2.2.1, aIa 6 s.2.2.2.2.2.1]
/-- s over t: what is copied -/
def sCp (s t : sT) : sT := (fFl 10 s.1 t.1, fFl 10 s.2.1 t.2.1, fFl 10 s.2.2.1 t.2.2.1, fFl 10 s.2.2.2.1 t.2.2.2.1, fFl 6 s.2.2.2.2.1 t.2.2.2.2.1, fFl 6 s.2.2.2.2.2.1 t.2.2.2.2.2.1, s.2.2.2.2.2.2)
def sBo (s : sT) : Prop := ∀ j, j < 10 → vp_nar .boolean (s.2.2.1 j) = s.2.2.1 j
abbrev rs17 : List Nat := [0, 1, 2, 3, 4, 5, 6, 7, 8, 9, 10, 11, 12, 13, 14, 15, 16]
def s0T : sT := (fun _ => 0, fun _ => 0, fun _ => 0, fun _ => 0, fun _ => 0, fun _ => 0, 0)
section SNP
variable {l : Launch} {X : aX} {s t : sT}
theorem c_X4_init : aWr l X mX4_init [0] [.ref 0] [aOb 4 [.null, .null]] none (aSn 0 s0T) := by
  refine aMt.of (by decide) rfl (Nat.le_of_ble_eq_true rfl) ?_
  refine a_aload_n dX4_init_0 rfl ?_
  refine a_objInit ml_X4_1 oi_iv oi_cd dX4_init_1 (by decide) (Nat.le_of_ble_eq_true rfl) ?_
  refine a_aload_n dX4_init_4 rfl ?_
  refine a_new (ci := 0) (fs := [.null, .null, .null, .null]) rfl u_X0 tyX0_ok kl_X4_7 ins_X0 ini_X0 dX4_init_5 (fun j hj => by first | (match j, hj with | 0, _ => rfl | 1, _ => rfl | 2, _ => rfl | 3, _ => rfl)) (fun _ => rfl) rfl (by decide) (by decide) ?_
  refine a_dup dX4_init_8 rfl ?_
  refine a_IvW [1] (_) k_X4_init_9 (c_X0_init) dX4_init_9 rfl rfl rfl rfl rfl (Nat.le_of_ble_eq_true rfl) ⟨Nat.le_of_ble_eq_true rfl, Nat.le_of_ble_eq_true rfl⟩ (Nat.le_of_ble_eq_true rfl) rfl ?_
  refine a_putF fp_X4_10 rfl dX4_init_12 rfl (Nat.le_of_ble_eq_true rfl) (fun _ => ⟨rfl, rfl⟩) ?_
  refine a_aload_n dX4_init_15 rfl ?_
  refine a_new (ci := 2) (fs := [.null, .null, .int 0]) rfl u_X2 tyX2_ok kl_X4_16 ins_X2 ini_X2 dX4_init_16 (fun j hj => by first | (match j, hj with | 0, _ => rfl | 1, _ => rfl | 2, _ => rfl)) (fun _ => rfl) rfl (by decide) (by decide) ?_
  refine a_dup dX4_init_19 rfl ?_
  refine a_IvW [6] (_) k_X4_init_18 (c_X2_init) dX4_init_20 rfl rfl rfl rfl rfl (Nat.le_of_ble_eq_true rfl) ⟨Nat.le_of_ble_eq_true rfl, Nat.le_of_ble_eq_true rfl⟩ (Nat.le_of_ble_eq_true rfl) rfl ?_
  refine a_putF fp_X4_19 rfl dX4_init_23 rfl (Nat.le_of_ble_eq_true rfl) (fun _ => ⟨rfl, rfl⟩) ?_
  refine a_vret rfl dX4_init_26 (by decide) (by decide) ?_
  exact ⟨rfl, rfl⟩
theorem c_X4_take (hz : sBo t) : aWr l X mX4_take rs17 [.ref 0, .ref 9, .ref 14] (aSn 0 s ++ aFP 9 t) none (aSn 0 (sCp t s) ++ aFP 9 t) := by
  refine aMt.of (by decide) rfl (Nat.le_of_ble_eq_true rfl) ?_
  refine a_aload_n dX4_take_0 rfl ?_
  refine a_get fl_X4_10 dX4_take_1 rfl rfl ?_
  refine a_aload_n dX4_take_4 rfl ?_
  refine a_VvW [1, 2, 3, 4, 5, 9, 10, 11, 12, 13] (_) k_X4_take_23 (c_X0_copyFrom (nm := s.1) (wt := s.2.1) (up := s.2.2.1) (ld := s.2.2.2.1) hz) dX4_take_5 rfl rfl rfl rfl rfl rfl (Nat.le_of_ble_eq_true rfl) ⟨Nat.le_of_ble_eq_true rfl, Nat.le_of_ble_eq_true rfl⟩ ⟨rfl, rfl⟩ (Nat.le_of_ble_eq_true rfl) rfl ?_
  refine a_aload_n dX4_take_8 rfl ?_
  refine a_get fl_X4_19 dX4_take_9 rfl rfl ?_
  refine a_aload_n dX4_take_12 rfl ?_
  refine a_VvW [6, 7, 8, 14, 15, 16] (_) k_X4_take_27 (c_X2_copyFrom (pk := s.2.2.2.2.1) (ps := s.2.2.2.2.2.1) (m := s.2.2.2.2.2.2) (pk2 := t.2.2.2.2.1) (ps2 := t.2.2.2.2.2.1) (m2 := t.2.2.2.2.2.2)) dX4_take_13 rfl rfl rfl rfl rfl rfl (Nat.le_of_ble_eq_true rfl) ⟨Nat.le_of_ble_eq_true rfl, Nat.le_of_ble_eq_true rfl⟩ ⟨rfl, rfl⟩ (Nat.le_of_ble_eq_true rfl) rfl ?_
  refine a_vret rfl dX4_take_16 (by decide) (by decide) ?_
  exact ⟨rfl, rfl⟩
theorem c_X4_give (hz : sBo s) : aWr l X mX4_give rs17 [.ref 0, .ref 9, .ref 14] (aSn 0 s ++ aFP 9 t) none (aSn 0 s ++ aFP 9 (sCp s t)) := by
  refine aMt.of (by decide) rfl (Nat.le_of_ble_eq_true rfl) ?_
  refine a_aload_n dX4_give_0 rfl ?_
  refine a_aload_n dX4_give_1 rfl ?_
  refine a_get fl_X4_10 dX4_give_2 rfl rfl ?_
  refine a_VvW [9, 10, 11, 12, 13, 1, 2, 3, 4, 5] (_) k_X4_give_23 (c_X0_copyFrom (nm := t.1) (wt := t.2.1) (up := t.2.2.1) (ld := t.2.2.2.1) hz) dX4_give_5 rfl rfl rfl rfl rfl rfl (Nat.le_of_ble_eq_true rfl) ⟨Nat.le_of_ble_eq_true rfl, Nat.le_of_ble_eq_true rfl⟩ ⟨rfl, rfl⟩ (Nat.le_of_ble_eq_true rfl) rfl ?_
  refine a_aload_n dX4_give_8 rfl ?_
  refine a_aload_n dX4_give_9 rfl ?_
  refine a_get fl_X4_19 dX4_give_10 rfl rfl ?_
  refine a_VvW [14, 15, 16, 6, 7, 8] (_) k_X4_give_27 (c_X2_copyFrom (pk := t.2.2.2.2.1) (ps := t.2.2.2.2.2.1) (m := t.2.2.2.2.2.2) (pk2 := s.2.2.2.2.1) (ps2 := s.2.2.2.2.2.1) (m2 := s.2.2.2.2.2.2)) dX4_give_13 rfl rfl rfl rfl rfl rfl (Nat.le_of_ble_eq_true rfl) ⟨Nat.le_of_ble_eq_true rfl, Nat.le_of_ble_eq_true rfl⟩ ⟨rfl, rfl⟩ (Nat.le_of_ble_eq_true rfl) rfl ?_
  refine a_vret rfl dX4_give_16 (by decide) (by decide) ?_
  exact ⟨rfl, rfl⟩
end SNP
