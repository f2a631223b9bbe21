/-! written by wip/whole/pp.py out of wip/whole/src/15.fleetw.lean -/
theorem dX0_init_0 : decode cX0_init 0 = .ok (.aload_n 0, 1) := by decide +kernel
theorem dX0_init_1 : decode cX0_init 1 = .ok (.invokespecial 3, 3) := by decide +kernel
theorem dX0_init_4 : decode cX0_init 4 = .ok (.aload_n 0, 1) := by decide +kernel
theorem dX0_init_5 : decode cX0_init 5 = .ok (.bipush 10, 2) := by decide +kernel
theorem dX0_init_7 : decode cX0_init 7 = .ok (.newarray .int, 2) := by decide +kernel
theorem dX0_init_9 : decode cX0_init 9 = .ok (.putfield 9, 3) := by decide +kernel
theorem dX0_init_12 : decode cX0_init 12 = .ok (.aload_n 0, 1) := by decide +kernel
theorem dX0_init_13 : decode cX0_init 13 = .ok (.bipush 10, 2) := by decide +kernel
theorem dX0_init_15 : decode cX0_init 15 = .ok (.newarray .int, 2) := by decide +kernel
theorem dX0_init_17 : decode cX0_init 17 = .ok (.putfield 15, 3) := by decide +kernel
theorem dX0_init_20 : decode cX0_init 20 = .ok (.aload_n 0, 1) := by decide +kernel
theorem dX0_init_21 : decode cX0_init 21 = .ok (.bipush 10, 2) := by decide +kernel
theorem dX0_init_23 : decode cX0_init 23 = .ok (.newarray .boolean, 2) := by decide +kernel
theorem dX0_init_25 : decode cX0_init 25 = .ok (.putfield 18, 3) := by decide +kernel
theorem dX0_init_28 : decode cX0_init 28 = .ok (.aload_n 0, 1) := by decide +kernel
theorem dX0_init_29 : decode cX0_init 29 = .ok (.bipush 10, 2) := by decide +kernel
theorem dX0_init_31 : decode cX0_init 31 = .ok (.newarray .long, 2) := by decide +kernel
theorem dX0_init_33 : decode cX0_init 33 = .ok (.putfield 22, 3) := by decide +kernel
theorem dX0_init_36 : decode cX0_init 36 = .ok (.return_, 1) := by decide +kernel
theorem dX0_clear_0 : decode cX0_clear 0 = .ok (.aload_n 0, 1) := by decide +kernel
theorem dX0_clear_1 : decode cX0_clear 1 = .ok (.getfield 9, 3) := by decide +kernel
theorem dX0_clear_4 : decode cX0_clear 4 = .ok (.iconst 0, 1) := by decide +kernel
theorem dX0_clear_5 : decode cX0_clear 5 = .ok (.invokestatic 26, 3) := by decide +kernel
theorem dX0_clear_8 : decode cX0_clear 8 = .ok (.return_, 1) := by decide +kernel
theorem dX0_copyFrom_0 : decode cX0_copyFrom 0 = .ok (.iconst 0, 1) := by decide +kernel
theorem dX0_copyFrom_1 : decode cX0_copyFrom 1 = .ok (.istore_n 2, 1) := by decide +kernel
theorem dX0_copyFrom_2 : decode cX0_copyFrom 2 = .ok (.iload_n 2, 1) := by decide +kernel
theorem dX0_copyFrom_3 : decode cX0_copyFrom 3 = .ok (.bipush 10, 2) := by decide +kernel
theorem dX0_copyFrom_5 : decode cX0_copyFrom 5 = .ok (.if_icmp .ge 57, 3) := by decide +kernel
theorem dX0_copyFrom_8 : decode cX0_copyFrom 8 = .ok (.aload_n 0, 1) := by decide +kernel
theorem dX0_copyFrom_9 : decode cX0_copyFrom 9 = .ok (.getfield 9, 3) := by decide +kernel
theorem dX0_copyFrom_12 : decode cX0_copyFrom 12 = .ok (.iload_n 2, 1) := by decide +kernel
theorem dX0_copyFrom_13 : decode cX0_copyFrom 13 = .ok (.aload_n 1, 1) := by decide +kernel
theorem dX0_copyFrom_14 : decode cX0_copyFrom 14 = .ok (.getfield 9, 3) := by decide +kernel
theorem dX0_copyFrom_17 : decode cX0_copyFrom 17 = .ok (.iload_n 2, 1) := by decide +kernel
theorem dX0_copyFrom_18 : decode cX0_copyFrom 18 = .ok (.iaload, 1) := by decide +kernel
theorem dX0_copyFrom_19 : decode cX0_copyFrom 19 = .ok (.iastore, 1) := by decide +kernel
theorem dX0_copyFrom_20 : decode cX0_copyFrom 20 = .ok (.aload_n 0, 1) := by decide +kernel
theorem dX0_copyFrom_21 : decode cX0_copyFrom 21 = .ok (.getfield 15, 3) := by decide +kernel
theorem dX0_copyFrom_24 : decode cX0_copyFrom 24 = .ok (.iload_n 2, 1) := by decide +kernel
theorem dX0_copyFrom_25 : decode cX0_copyFrom 25 = .ok (.aload_n 1, 1) := by decide +kernel
theorem dX0_copyFrom_26 : decode cX0_copyFrom 26 = .ok (.getfield 15, 3) := by decide +kernel
theorem dX0_copyFrom_29 : decode cX0_copyFrom 29 = .ok (.iload_n 2, 1) := by decide +kernel
theorem dX0_copyFrom_30 : decode cX0_copyFrom 30 = .ok (.iaload, 1) := by decide +kernel
theorem dX0_copyFrom_31 : decode cX0_copyFrom 31 = .ok (.iastore, 1) := by decide +kernel
theorem dX0_copyFrom_32 : decode cX0_copyFrom 32 = .ok (.aload_n 0, 1) := by decide +kernel
theorem dX0_copyFrom_33 : decode cX0_copyFrom 33 = .ok (.getfield 18, 3) := by decide +kernel
theorem dX0_copyFrom_36 : decode cX0_copyFrom 36 = .ok (.iload_n 2, 1) := by decide +kernel
theorem dX0_copyFrom_37 : decode cX0_copyFrom 37 = .ok (.aload_n 1, 1) := by decide +kernel
theorem dX0_copyFrom_38 : decode cX0_copyFrom 38 = .ok (.getfield 18, 3) := by decide +kernel
theorem dX0_copyFrom_41 : decode cX0_copyFrom 41 = .ok (.iload_n 2, 1) := by decide +kernel
theorem dX0_copyFrom_42 : decode cX0_copyFrom 42 = .ok (.baload, 1) := by decide +kernel
theorem dX0_copyFrom_43 : decode cX0_copyFrom 43 = .ok (.bastore, 1) := by decide +kernel
theorem dX0_copyFrom_44 : decode cX0_copyFrom 44 = .ok (.aload_n 0, 1) := by decide +kernel
theorem dX0_copyFrom_45 : decode cX0_copyFrom 45 = .ok (.getfield 22, 3) := by decide +kernel
theorem dX0_copyFrom_48 : decode cX0_copyFrom 48 = .ok (.iload_n 2, 1) := by decide +kernel
theorem dX0_copyFrom_49 : decode cX0_copyFrom 49 = .ok (.aload_n 1, 1) := by decide +kernel
theorem dX0_copyFrom_50 : decode cX0_copyFrom 50 = .ok (.getfield 22, 3) := by decide +kernel
theorem dX0_copyFrom_53 : decode cX0_copyFrom 53 = .ok (.iload_n 2, 1) := by decide +kernel
theorem dX0_copyFrom_54 : decode cX0_copyFrom 54 = .ok (.laload, 1) := by decide +kernel
theorem dX0_copyFrom_55 : decode cX0_copyFrom 55 = .ok (.lastore, 1) := by decide +kernel
theorem dX0_copyFrom_56 : decode cX0_copyFrom 56 = .ok (.iinc 2 1, 3) := by decide +kernel
theorem dX0_copyFrom_59 : decode cX0_copyFrom 59 = .ok (.goto (-57), 3) := by decide +kernel
theorem dX0_copyFrom_62 : decode cX0_copyFrom 62 = .ok (.return_, 1) := by decide +kernel
theorem dX0_put_0 : decode cX0_put 0 = .ok (.iload_n 1, 1) := by decide +kernel
theorem dX0_put_1 : decode cX0_put 1 = .ok (.invokestatic 32, 3) := by decide +kernel
theorem dX0_put_4 : decode cX0_put 4 = .ok (.ifCond .eq 31, 3) := by decide +kernel
theorem dX0_put_7 : decode cX0_put 7 = .ok (.aload_n 0, 1) := by decide +kernel
theorem dX0_put_8 : decode cX0_put 8 = .ok (.getfield 9, 3) := by decide +kernel
theorem dX0_put_11 : decode cX0_put 11 = .ok (.iload_n 1, 1) := by decide +kernel
theorem dX0_put_12 : decode cX0_put 12 = .ok (.iload_n 2, 1) := by decide +kernel
theorem dX0_put_13 : decode cX0_put 13 = .ok (.iastore, 1) := by decide +kernel
theorem dX0_put_14 : decode cX0_put 14 = .ok (.aload_n 0, 1) := by decide +kernel
theorem dX0_put_15 : decode cX0_put 15 = .ok (.getfield 15, 3) := by decide +kernel
theorem dX0_put_18 : decode cX0_put 18 = .ok (.iload_n 1, 1) := by decide +kernel
theorem dX0_put_19 : decode cX0_put 19 = .ok (.iload_n 3, 1) := by decide +kernel
theorem dX0_put_20 : decode cX0_put 20 = .ok (.iastore, 1) := by decide +kernel
theorem dX0_put_21 : decode cX0_put 21 = .ok (.aload_n 0, 1) := by decide +kernel
theorem dX0_put_22 : decode cX0_put 22 = .ok (.getfield 18, 3) := by decide +kernel
theorem dX0_put_25 : decode cX0_put 25 = .ok (.iload_n 1, 1) := by decide +kernel
theorem dX0_put_26 : decode cX0_put 26 = .ok (.iconst 1, 1) := by decide +kernel
theorem dX0_put_27 : decode cX0_put 27 = .ok (.bastore, 1) := by decide +kernel
theorem dX0_put_28 : decode cX0_put 28 = .ok (.aload_n 0, 1) := by decide +kernel
theorem dX0_put_29 : decode cX0_put 29 = .ok (.getfield 22, 3) := by decide +kernel
theorem dX0_put_32 : decode cX0_put 32 = .ok (.iload_n 1, 1) := by decide +kernel
theorem dX0_put_33 : decode cX0_put 33 = .ok (.lconst 0, 1) := by decide +kernel
theorem dX0_put_34 : decode cX0_put 34 = .ok (.lastore, 1) := by decide +kernel
theorem dX0_put_35 : decode cX0_put 35 = .ok (.return_, 1) := by decide +kernel
theorem dX0_drop_0 : decode cX0_drop 0 = .ok (.iload_n 1, 1) := by decide +kernel
theorem dX0_drop_1 : decode cX0_drop 1 = .ok (.invokestatic 32, 3) := by decide +kernel
theorem dX0_drop_4 : decode cX0_drop 4 = .ok (.ifCond .eq 10, 3) := by decide +kernel
theorem dX0_drop_7 : decode cX0_drop 7 = .ok (.aload_n 0, 1) := by decide +kernel
theorem dX0_drop_8 : decode cX0_drop 8 = .ok (.getfield 9, 3) := by decide +kernel
theorem dX0_drop_11 : decode cX0_drop 11 = .ok (.iload_n 1, 1) := by decide +kernel
theorem dX0_drop_12 : decode cX0_drop 12 = .ok (.iconst 0, 1) := by decide +kernel
theorem dX0_drop_13 : decode cX0_drop 13 = .ok (.iastore, 1) := by decide +kernel
theorem dX0_drop_14 : decode cX0_drop 14 = .ok (.return_, 1) := by decide +kernel
theorem dX0_changeWeight_0 : decode cX0_changeWeight 0 = .ok (.aload_n 0, 1) := by decide +kernel
theorem dX0_changeWeight_1 : decode cX0_changeWeight 1 = .ok (.iload_n 1, 1) := by decide +kernel
theorem dX0_changeWeight_2 : decode cX0_changeWeight 2 = .ok (.invokevirtual 36, 3) := by decide +kernel
theorem dX0_changeWeight_5 : decode cX0_changeWeight 5 = .ok (.ifCond .eq 10, 3) := by decide +kernel
theorem dX0_changeWeight_8 : decode cX0_changeWeight 8 = .ok (.aload_n 0, 1) := by decide +kernel
theorem dX0_changeWeight_9 : decode cX0_changeWeight 9 = .ok (.getfield 15, 3) := by decide +kernel
theorem dX0_changeWeight_12 : decode cX0_changeWeight 12 = .ok (.iload_n 1, 1) := by decide +kernel
theorem dX0_changeWeight_13 : decode cX0_changeWeight 13 = .ok (.iload_n 2, 1) := by decide +kernel
theorem dX0_changeWeight_14 : decode cX0_changeWeight 14 = .ok (.iastore, 1) := by decide +kernel
theorem dX0_changeWeight_15 : decode cX0_changeWeight 15 = .ok (.return_, 1) := by decide +kernel
theorem dX0_changeUp_0 : decode cX0_changeUp 0 = .ok (.aload_n 0, 1) := by decide +kernel
theorem dX0_changeUp_1 : decode cX0_changeUp 1 = .ok (.iload_n 1, 1) := by decide +kernel
theorem dX0_changeUp_2 : decode cX0_changeUp 2 = .ok (.invokevirtual 36, 3) := by decide +kernel
theorem dX0_changeUp_5 : decode cX0_changeUp 5 = .ok (.ifCond .eq 10, 3) := by decide +kernel
theorem dX0_changeUp_8 : decode cX0_changeUp 8 = .ok (.aload_n 0, 1) := by decide +kernel
theorem dX0_changeUp_9 : decode cX0_changeUp 9 = .ok (.getfield 18, 3) := by decide +kernel
theorem dX0_changeUp_12 : decode cX0_changeUp 12 = .ok (.iload_n 1, 1) := by decide +kernel
theorem dX0_changeUp_13 : decode cX0_changeUp 13 = .ok (.iload_n 2, 1) := by decide +kernel
theorem dX0_changeUp_14 : decode cX0_changeUp 14 = .ok (.bastore, 1) := by decide +kernel
theorem dX0_changeUp_15 : decode cX0_changeUp 15 = .ok (.return_, 1) := by decide +kernel
theorem dX0_addLoad_0 : decode cX0_addLoad 0 = .ok (.aload_n 0, 1) := by decide +kernel
theorem dX0_addLoad_1 : decode cX0_addLoad 1 = .ok (.iload_n 1, 1) := by decide +kernel
theorem dX0_addLoad_2 : decode cX0_addLoad 2 = .ok (.invokevirtual 36, 3) := by decide +kernel
theorem dX0_addLoad_5 : decode cX0_addLoad 5 = .ok (.ifCond .eq 14, 3) := by decide +kernel
theorem dX0_addLoad_8 : decode cX0_addLoad 8 = .ok (.aload_n 0, 1) := by decide +kernel
theorem dX0_addLoad_9 : decode cX0_addLoad 9 = .ok (.getfield 22, 3) := by decide +kernel
theorem dX0_addLoad_12 : decode cX0_addLoad 12 = .ok (.iload_n 1, 1) := by decide +kernel
theorem dX0_addLoad_13 : decode cX0_addLoad 13 = .ok (.dup2, 1) := by decide +kernel
theorem dX0_addLoad_14 : decode cX0_addLoad 14 = .ok (.laload, 1) := by decide +kernel
theorem dX0_addLoad_15 : decode cX0_addLoad 15 = .ok (.iload_n 2, 1) := by decide +kernel
theorem dX0_addLoad_16 : decode cX0_addLoad 16 = .ok (.i2l, 1) := by decide +kernel
theorem dX0_addLoad_17 : decode cX0_addLoad 17 = .ok (.ladd, 1) := by decide +kernel
theorem dX0_addLoad_18 : decode cX0_addLoad 18 = .ok (.lastore, 1) := by decide +kernel
theorem dX0_addLoad_19 : decode cX0_addLoad 19 = .ok (.return_, 1) := by decide +kernel
theorem dJ7_fill_53178_0 : decode cJ7_fill_53178 0 = .ok (.iconst 0, 1) := by decide +kernel
theorem dJ7_fill_53178_1 : decode cJ7_fill_53178 1 = .ok (.istore_n 2, 1) := by decide +kernel
theorem dJ7_fill_53178_2 : decode cJ7_fill_53178 2 = .ok (.aload_n 0, 1) := by decide +kernel
theorem dJ7_fill_53178_3 : decode cJ7_fill_53178 3 = .ok (.arraylength, 1) := by decide +kernel
theorem dJ7_fill_53178_4 : decode cJ7_fill_53178 4 = .ok (.istore_n 3, 1) := by decide +kernel
theorem dJ7_fill_53178_5 : decode cJ7_fill_53178 5 = .ok (.iload_n 2, 1) := by decide +kernel
theorem dJ7_fill_53178_6 : decode cJ7_fill_53178 6 = .ok (.iload_n 3, 1) := by decide +kernel
theorem dJ7_fill_53178_7 : decode cJ7_fill_53178 7 = .ok (.if_icmp .ge 13, 3) := by decide +kernel
theorem dJ7_fill_53178_10 : decode cJ7_fill_53178 10 = .ok (.aload_n 0, 1) := by decide +kernel
theorem dJ7_fill_53178_11 : decode cJ7_fill_53178 11 = .ok (.iload_n 2, 1) := by decide +kernel
theorem dJ7_fill_53178_12 : decode cJ7_fill_53178 12 = .ok (.iload_n 1, 1) := by decide +kernel
theorem dJ7_fill_53178_13 : decode cJ7_fill_53178 13 = .ok (.iastore, 1) := by decide +kernel
theorem dJ7_fill_53178_14 : decode cJ7_fill_53178 14 = .ok (.iinc 2 1, 3) := by decide +kernel
theorem dJ7_fill_53178_17 : decode cJ7_fill_53178 17 = .ok (.goto (-12), 3) := by decide +kernel
theorem dJ7_fill_53178_20 : decode cJ7_fill_53178 20 = .ok (.return_, 1) := by decide +kernel
theorem k_X0_clear_26 : aKS mX0_clear mJ7_fill_53178 26 2 := ⟨cb_J7_fill_53178, rfl, ml_X0_26, st_J7_fill_53178, ⟨Nat.le_of_ble_eq_true rfl, Nat.le_of_ble_eq_true rfl⟩⟩
theorem k_X0_put_32 : aKS mX0_put mX0_isNumber 32 1 := ⟨cb_X0_isNumber, rfl, ml_X0_32, st_X0_isNumber, ⟨Nat.le_of_ble_eq_true rfl, Nat.le_of_ble_eq_true rfl⟩⟩
theorem k_X0_drop_32 : aKS mX0_drop mX0_isNumber 32 1 := ⟨cb_X0_isNumber, rfl, ml_X0_32, st_X0_isNumber, ⟨Nat.le_of_ble_eq_true rfl, Nat.le_of_ble_eq_true rfl⟩⟩
theorem k_X0_changeWeight_36 : aKV mX0_changeWeight mX0_has 36 1 0 := ⟨cb_X0_has, rfl, ml_X0_36, iv_X0_has, sl_X0_has, ⟨_, _, rfl⟩, ⟨Nat.le_of_ble_eq_true rfl, Nat.le_of_ble_eq_true rfl⟩⟩
theorem k_X0_changeUp_36 : aKV mX0_changeUp mX0_has 36 1 0 := ⟨cb_X0_has, rfl, ml_X0_36, iv_X0_has, sl_X0_has, ⟨_, _, rfl⟩, ⟨Nat.le_of_ble_eq_true rfl, Nat.le_of_ble_eq_true rfl⟩⟩
theorem k_X0_addLoad_36 : aKV mX0_addLoad mX0_has 36 1 0 := ⟨cb_X0_has, rfl, ml_X0_36, iv_X0_has, sl_X0_has, ⟨_, _, rfl⟩, ⟨Nat.le_of_ble_eq_true rfl, Nat.le_of_ble_eq_true rfl⟩⟩
/-! ===== Fleet: writes ===== -/
section FLEETW
variable {l : Launch} {X : aX} {nm wt up : Nat → Int32} {ld : Nat → Int64}
/-- the first n places are v's -/
def fFl {α : Type} (n : Nat) (v f : Nat → α) : Nat → α := fun j => if j < n then v j else f j
theorem fFl_0 {α : Type} (v f : Nat → α) : fFl 0 v f = f := by funext j; simp [fFl]
theorem fFl_s {k : Nat} {v f : Nat → Int32} : upd (fFl k v f) k (v k) = fFl (k + 1) v f := by
  funext j
  simp only [upd, fFl]
  by_cases h : j = k
  · subst h; simp
  · by_cases h2 : j < k
    · simp [h, h2, Nat.lt_succ_of_lt h2]
    · have : ¬ j < k + 1 := by omega
      simp [h, h2, this]
theorem fFl_sL {k : Nat} {v f : Nat → Int64} : vp_updL (fFl k v f) k (v k) = fFl (k + 1) v f := by
  funext j
  simp only [vp_updL, fFl]
  by_cases h : j = k
  · subst h; simp
  · by_cases h2 : j < k
    · simp [h, h2, Nat.lt_succ_of_lt h2]
    · have : ¬ j < k + 1 := by omega
      simp [h, h2, this]
theorem c_J7_fill (n : Nat) (hn : n < 1000) (f : Nat → Int32) (v : Int32) : aWr l X mJ7_fill_53178 [0] [.ref 0, .int v] [aIa n f] none [aIa n (fFl n (fun _ => v) f)] := by
  refine aMt.of (by decide) rfl (Nat.le_of_ble_eq_true rfl) ?_
  refine a_iconst 0 dJ7_fill_53178_0 (by decide) ?_
  refine a_istore_n dJ7_fill_53178_1 (by decide) rfl ?_
  refine a_aload_n dJ7_fill_53178_2 rfl ?_
  refine a_alen _ dJ7_fill_53178_3 rfl rfl ?_
  refine a_istore_n dJ7_fill_53178_4 (by decide) rfl ?_
  have lp : ∀ (k j : Nat), j + k = n → aJ l X mJ7_fill_53178 (aEd X mJ7_fill_53178 [0] (fun o h' => o = .inl none ∧ h' = [aIa n (fFl n (fun _ => v) f)])) 0 0 5 [.ref 0, .int v, .int (nI j), .int (nI n)] [] [aIa n (fFl j (fun _ => v) f)] := by
    intro k
    induction k with
    | zero =>
      intro j hj
      obtain rfl : j = n := by omega
      refine a_iload_n dJ7_fill_53178_5 rfl ?_
      refine a_iload_n dJ7_fill_53178_6 rfl ?_
      refine a_icmp_ge 20 dJ7_fill_53178_7 (by decide) (fun _ => ?_) (fun z => absurd (nI_le (Nat.le_refl j) (by omega)) z)
      refine a_vret rfl dJ7_fill_53178_20 (by decide) (by decide) ?_
      exact ⟨rfl, rfl⟩
    | succ k ih =>
      intro j hj
      refine a_iload_n dJ7_fill_53178_5 rfl ?_
      refine a_iload_n dJ7_fill_53178_6 rfl ?_
      refine a_icmp_ge 20 dJ7_fill_53178_7 (by decide) (fun z => absurd z (nI_ge (by omega) (by omega))) (fun _ => ?_)
      refine a_aload_n dJ7_fill_53178_10 rfl ?_
      refine a_iload_n dJ7_fill_53178_11 rfl ?_
      refine a_iload_n dJ7_fill_53178_12 rfl ?_
      refine a_iast dJ7_fill_53178_13 rfl (vp_in_nI (by omega) (by omega)) ?_
      refine a_iinc (nI (j + 1)) dJ7_fill_53178_14 rfl (nI_1 _) (by decide) rfl ?_
      refine a_goto 5 dJ7_fill_53178_17 (by decide) ?_
      have e : (nI j).toNatClampNeg = j := nI_clamp (by omega)
      rw [e, fFl_s (v := fun _ => v)]
      exact ih (j + 1) (by omega)
  have := lp n 0 (by omega)
  rw [fFl_0] at this
  exact this
theorem c_X0_clear : aWr l X mX0_clear rs5 [.ref 0] (aFt nm wt up ld) none (aFt (fFl 10 (fun _ => 0) nm) wt up ld) := by
  refine aMt.of (by decide) rfl (Nat.le_of_ble_eq_true rfl) ?_
  refine a_aload_n dX0_clear_0 rfl ?_
  refine a_get fl_X0_9 dX0_clear_1 rfl rfl ?_
  refine a_iconst 0 dX0_clear_4 (by decide) ?_
  refine a_SvW [1] (aFt (fFl 10 (fun _ => 0) nm) wt up ld) k_X0_clear_26 (c_J7_fill 10 (by decide) nm 0) dX0_clear_5 rfl rfl rfl rfl rfl (Nat.le_of_ble_eq_true rfl) ⟨Nat.le_of_ble_eq_true rfl, Nat.le_of_ble_eq_true rfl⟩ ⟨rfl, rfl⟩ (Nat.le_of_ble_eq_true rfl) rfl ?_
  refine a_vret rfl dX0_clear_8 (by decide) (by decide) ?_
  exact ⟨rfl, rfl⟩
theorem c_X0_put (s n w : Int32) (hs : fNm s = true) : aWr l X mX0_put rs5 [.ref 0, .int s, .int n, .int w] (aFt nm wt up ld) none (aFt (upd nm s.toNatClampNeg n) (upd wt s.toNatClampNeg w) (upd up s.toNatClampNeg 1) (vp_updL ld s.toNatClampNeg 0)) := by
  refine aMt.of (by decide) rfl (Nat.le_of_ble_eq_true rfl) ?_
  have hi := fNm_in hs
  refine a_iload_n dX0_put_0 rfl ?_
  refine a_SiR [] k_X0_put_32 (c_X0_isNumber s) dX0_put_1 rfl rfl rfl rfl rfl (Nat.le_of_ble_eq_true rfl) ⟨Nat.le_of_ble_eq_true rfl, Nat.le_of_ble_eq_true rfl⟩ ⟨rfl, rfl⟩ ?_
  refine a_if_eq 35 dX0_put_4 (by decide) (fun c4 => ?_) (fun c4 => ?_)
  · exact absurd (bI_0 c4) (by rw [hs]; decide)
  · refine a_aload_n dX0_put_7 rfl ?_
    refine a_get fl_X0_9 dX0_put_8 rfl rfl ?_
    refine a_iload_n dX0_put_11 rfl ?_
    refine a_iload_n dX0_put_12 rfl ?_
    refine a_iast dX0_put_13 rfl (by assumption) ?_
    refine a_aload_n dX0_put_14 rfl ?_
    refine a_get fl_X0_15 dX0_put_15 rfl rfl ?_
    refine a_iload_n dX0_put_18 rfl ?_
    refine a_iload_n dX0_put_19 rfl ?_
    refine a_iast dX0_put_20 rfl (by assumption) ?_
    refine a_aload_n dX0_put_21 rfl ?_
    refine a_get fl_X0_18 dX0_put_22 rfl rfl ?_
    refine a_iload_n dX0_put_25 rfl ?_
    refine a_iconst 1 dX0_put_26 (by decide) ?_
    refine a_zast dX0_put_27 rfl (by assumption) ?_
    refine a_aload_n dX0_put_28 rfl ?_
    refine a_get fl_X0_22 dX0_put_29 rfl rfl ?_
    refine a_iload_n dX0_put_32 rfl ?_
    refine a_lconst 0 dX0_put_33 (by decide) ?_
    refine a_last dX0_put_34 rfl (by assumption) ?_
    refine a_vret rfl dX0_put_35 (by decide) (by decide) ?_
    exact ⟨rfl, rfl⟩
theorem c_X0_drop (s : Int32) (hs : fNm s = true) : aWr l X mX0_drop rs5 [.ref 0, .int s] (aFt nm wt up ld) none (aFt (upd nm s.toNatClampNeg 0) wt up ld) := by
  refine aMt.of (by decide) rfl (Nat.le_of_ble_eq_true rfl) ?_
  have hi := fNm_in hs
  refine a_iload_n dX0_drop_0 rfl ?_
  refine a_SiR [] k_X0_drop_32 (c_X0_isNumber s) dX0_drop_1 rfl rfl rfl rfl rfl (Nat.le_of_ble_eq_true rfl) ⟨Nat.le_of_ble_eq_true rfl, Nat.le_of_ble_eq_true rfl⟩ ⟨rfl, rfl⟩ ?_
  refine a_if_eq 14 dX0_drop_4 (by decide) (fun c4 => ?_) (fun c4 => ?_)
  · exact absurd (bI_0 c4) (by rw [hs]; decide)
  · refine a_aload_n dX0_drop_7 rfl ?_
    refine a_get fl_X0_9 dX0_drop_8 rfl rfl ?_
    refine a_iload_n dX0_drop_11 rfl ?_
    refine a_iconst 0 dX0_drop_12 (by decide) ?_
    refine a_iast dX0_drop_13 rfl (by assumption) ?_
    refine a_vret rfl dX0_drop_14 (by decide) (by decide) ?_
    exact ⟨rfl, rfl⟩
theorem c_X0_changeWeight (s w : Int32) (hs : fHs nm s = true) : aWr l X mX0_changeWeight rs5 [.ref 0, .int s, .int w] (aFt nm wt up ld) none (aFt nm (upd wt s.toNatClampNeg w) up ld) := by
  refine aMt.of (by decide) rfl (Nat.le_of_ble_eq_true rfl) ?_
  have hi := fHs_in hs
  refine a_aload_n dX0_changeWeight_0 rfl ?_
  refine a_iload_n dX0_changeWeight_1 rfl ?_
  refine a_ViR [0, 1, 2, 3, 4] k_X0_changeWeight_36 (c_X0_has (nm := nm) (wt := wt) (up := up) (ld := ld) s) dX0_changeWeight_2 rfl rfl rfl rfl rfl rfl (Nat.le_of_ble_eq_true rfl) ⟨Nat.le_of_ble_eq_true rfl, Nat.le_of_ble_eq_true rfl⟩ ⟨rfl, rfl⟩ ?_
  refine a_if_eq 15 dX0_changeWeight_5 (by decide) (fun c5 => ?_) (fun c5 => ?_)
  · exact absurd (bI_0 c5) (by rw [hs]; decide)
  · refine a_aload_n dX0_changeWeight_8 rfl ?_
    refine a_get fl_X0_15 dX0_changeWeight_9 rfl rfl ?_
    refine a_iload_n dX0_changeWeight_12 rfl ?_
    refine a_iload_n dX0_changeWeight_13 rfl ?_
    refine a_iast dX0_changeWeight_14 rfl (by assumption) ?_
    refine a_vret rfl dX0_changeWeight_15 (by decide) (by decide) ?_
    exact ⟨rfl, rfl⟩
theorem c_X0_changeUp (s : Int32) (b : Bool) (hs : fHs nm s = true) : aWr l X mX0_changeUp rs5 [.ref 0, .int s, .int (bI b)] (aFt nm wt up ld) none (aFt nm wt (upd up s.toNatClampNeg (bI b)) ld) := by
  refine aMt.of (by decide) rfl (Nat.le_of_ble_eq_true rfl) ?_
  have hi := fHs_in hs
  refine a_aload_n dX0_changeUp_0 rfl ?_
  refine a_iload_n dX0_changeUp_1 rfl ?_
  refine a_ViR [0, 1, 2, 3, 4] k_X0_changeUp_36 (c_X0_has (nm := nm) (wt := wt) (up := up) (ld := ld) s) dX0_changeUp_2 rfl rfl rfl rfl rfl rfl (Nat.le_of_ble_eq_true rfl) ⟨Nat.le_of_ble_eq_true rfl, Nat.le_of_ble_eq_true rfl⟩ ⟨rfl, rfl⟩ ?_
  refine a_if_eq 15 dX0_changeUp_5 (by decide) (fun c5 => ?_) (fun c5 => ?_)
  · exact absurd (bI_0 c5) (by rw [hs]; decide)
  · refine a_aload_n dX0_changeUp_8 rfl ?_
    refine a_get fl_X0_18 dX0_changeUp_9 rfl rfl ?_
    refine a_iload_n dX0_changeUp_12 rfl ?_
    refine a_iload_n dX0_changeUp_13 rfl ?_
    refine a_zast dX0_changeUp_14 rfl (by assumption) ?_
    refine a_vret rfl dX0_changeUp_15 (by decide) (by decide) ?_
    exact ⟨rfl, by rw [bI_vp]; rfl⟩
theorem c_X0_addLoad (s n : Int32) : aWr l X mX0_addLoad rs5 [.ref 0, .int s, .int n] (aFt nm wt up ld) none (aFt nm wt up (if fHs nm s then vp_updL ld s.toNatClampNeg (ld s.toNatClampNeg + n.toInt64) else ld)) := by
  refine aMt.of (by decide) rfl (Nat.le_of_ble_eq_true rfl) ?_
  refine a_aload_n dX0_addLoad_0 rfl ?_
  refine a_iload_n dX0_addLoad_1 rfl ?_
  refine a_ViR [0, 1, 2, 3, 4] k_X0_addLoad_36 (c_X0_has (nm := nm) (wt := wt) (up := up) (ld := ld) s) dX0_addLoad_2 rfl rfl rfl rfl rfl rfl (Nat.le_of_ble_eq_true rfl) ⟨Nat.le_of_ble_eq_true rfl, Nat.le_of_ble_eq_true rfl⟩ ⟨rfl, rfl⟩ ?_
  refine a_if_eq 19 dX0_addLoad_5 (by decide) (fun c5 => ?_) (fun c5 => ?_)
  · refine a_vret rfl dX0_addLoad_19 (by decide) (by decide) ?_
    exact ⟨rfl, by rw [bI_0 c5]; rfl⟩
  · have hi := fHs_in (bI_1 c5)
    refine a_aload_n dX0_addLoad_8 rfl ?_
    refine a_get fl_X0_22 dX0_addLoad_9 rfl rfl ?_
    refine a_iload_n dX0_addLoad_12 rfl ?_
    refine a_dup2 dX0_addLoad_13 rfl rfl ?_
    refine a_lald dX0_addLoad_14 rfl (by assumption) ?_
    refine a_iload_n dX0_addLoad_15 rfl ?_
    refine a_i2l dX0_addLoad_16 ?_
    refine a_ladd dX0_addLoad_17 ?_
    refine a_last dX0_addLoad_18 rfl (by assumption) ?_
    refine a_vret rfl dX0_addLoad_19 (by decide) (by decide) ?_
    exact ⟨rfl, by rw [bI_1 c5]; rfl⟩
/-- two fleets -/
abbrev aFt2 (nm wt up : Nat → Int32) (ld : Nat → Int64) (nm2 wt2 up2 : Nat → Int32) (ld2 : Nat → Int64) : List aCell := [aOb 0 [.ref 1, .ref 2, .ref 3, .ref 4], aIa 10 nm, aIa 10 wt, aBa 10 up, aLa 10 ld, aOb 0 [.ref 6, .ref 7, .ref 8, .ref 9], aIa 10 nm2, aIa 10 wt2, aBa 10 up2, aLa 10 ld2]
abbrev rs10 : List Nat := [0, 1, 2, 3, 4, 5, 6, 7, 8, 9]
theorem c_X0_copyFrom {nm2 wt2 up2 : Nat → Int32} {ld2 : Nat → Int64} (hz : ∀ j, j < 10 → vp_nar .boolean (up2 j) = up2 j) : aWr l X mX0_copyFrom rs10 [.ref 0, .ref 5] (aFt2 nm wt up ld nm2 wt2 up2 ld2) none (aFt2 (fFl 10 nm2 nm) (fFl 10 wt2 wt) (fFl 10 up2 up) (fFl 10 ld2 ld) nm2 wt2 up2 ld2) := by
  refine aMt.of (by decide) rfl (Nat.le_of_ble_eq_true rfl) ?_
  refine a_iconst 0 dX0_copyFrom_0 (by decide) ?_
  refine a_istore_n dX0_copyFrom_1 (by decide) rfl ?_
  have lp : ∀ (k j : Nat), j + k = 10 → aJ l X mX0_copyFrom (aEd X mX0_copyFrom rs10 (fun o h' => o = .inl none ∧ h' = aFt2 (fFl 10 nm2 nm) (fFl 10 wt2 wt) (fFl 10 up2 up) (fFl 10 ld2 ld) nm2 wt2 up2 ld2)) 0 0 2 [.ref 0, .ref 5, .int (nI j)] [] (aFt2 (fFl j nm2 nm) (fFl j wt2 wt) (fFl j up2 up) (fFl j ld2 ld) nm2 wt2 up2 ld2) := by
    intro k
    induction k with
    | zero =>
      intro j hj
      obtain rfl : j = 10 := by omega
      refine a_iload_n dX0_copyFrom_2 rfl ?_
      refine a_bipush 10 dX0_copyFrom_3 (by decide) ?_
      refine a_icmp_ge 62 dX0_copyFrom_5 (by decide) (fun _ => ?_) (fun z => absurd ge10_t z)
      refine a_vret rfl dX0_copyFrom_62 (by decide) (by decide) ?_
      exact ⟨rfl, rfl⟩
    | succ k ih =>
      intro j hj
      have hi : vp_in (nI j) 10 := in10 (by omega)
      refine a_iload_n dX0_copyFrom_2 rfl ?_
      refine a_bipush 10 dX0_copyFrom_3 (by decide) ?_
      refine a_icmp_ge 62 dX0_copyFrom_5 (by decide) (fun z => absurd z (ge10_f (by omega))) (fun _ => ?_)
      refine a_aload_n dX0_copyFrom_8 rfl ?_
      refine a_get fl_X0_9 dX0_copyFrom_9 rfl rfl ?_
      refine a_iload_n dX0_copyFrom_12 rfl ?_
      refine a_aload_n dX0_copyFrom_13 rfl ?_
      refine a_get fl_X0_9 dX0_copyFrom_14 rfl rfl ?_
      refine a_iload_n dX0_copyFrom_17 rfl ?_
      refine a_iald dX0_copyFrom_18 rfl (by assumption) ?_
      refine a_iast dX0_copyFrom_19 rfl (by assumption) ?_
      refine a_aload_n dX0_copyFrom_20 rfl ?_
      refine a_get fl_X0_15 dX0_copyFrom_21 rfl rfl ?_
      refine a_iload_n dX0_copyFrom_24 rfl ?_
      refine a_aload_n dX0_copyFrom_25 rfl ?_
      refine a_get fl_X0_15 dX0_copyFrom_26 rfl rfl ?_
      refine a_iload_n dX0_copyFrom_29 rfl ?_
      refine a_iald dX0_copyFrom_30 rfl (by assumption) ?_
      refine a_iast dX0_copyFrom_31 rfl (by assumption) ?_
      refine a_aload_n dX0_copyFrom_32 rfl ?_
      refine a_get fl_X0_18 dX0_copyFrom_33 rfl rfl ?_
      refine a_iload_n dX0_copyFrom_36 rfl ?_
      refine a_aload_n dX0_copyFrom_37 rfl ?_
      refine a_get fl_X0_18 dX0_copyFrom_38 rfl rfl ?_
      refine a_iload_n dX0_copyFrom_41 rfl ?_
      refine a_zald dX0_copyFrom_42 rfl (by assumption) ?_
      refine a_zast dX0_copyFrom_43 rfl (by assumption) ?_
      refine a_aload_n dX0_copyFrom_44 rfl ?_
      refine a_get fl_X0_22 dX0_copyFrom_45 rfl rfl ?_
      refine a_iload_n dX0_copyFrom_48 rfl ?_
      refine a_aload_n dX0_copyFrom_49 rfl ?_
      refine a_get fl_X0_22 dX0_copyFrom_50 rfl rfl ?_
      refine a_iload_n dX0_copyFrom_53 rfl ?_
      refine a_lald dX0_copyFrom_54 rfl (by assumption) ?_
      refine a_last dX0_copyFrom_55 rfl (by assumption) ?_
      refine a_iinc (nI (j + 1)) dX0_copyFrom_56 rfl (nI_1 _) (by decide) rfl ?_
      refine a_goto 2 dX0_copyFrom_59 (by decide) ?_
      refine a_to rfl rfl rfl ?_ (ih (j + 1) (by omega))
      have e : (nI j).toNatClampNeg = j := cl10 (by omega)
      rw [e, hz j (by omega), fFl_s, fFl_s, fFl_s, fFl_sL]
      rfl
  have := lp 10 0 (by omega)
  rw [fFl_0, fFl_0, fFl_0, fFl_0] at this
  exact this
theorem c_X0_init : aWr l X mX0_init [0] [.ref 0] [aOb 0 [.null, .null, .null, .null]] none (aFt (fun _ => 0) (fun _ => 0) (fun _ => 0) (fun _ => 0)) := by
  refine aMt.of (by decide) rfl (Nat.le_of_ble_eq_true rfl) ?_
  refine a_aload_n dX0_init_0 rfl ?_
  refine a_objInit ml_X0_3 oi_iv oi_cd dX0_init_1 (by decide) (Nat.le_of_ble_eq_true rfl) ?_
  refine a_aload_n dX0_init_4 rfl ?_
  refine a_bipush 10 dX0_init_5 (by decide) ?_
  refine a_newi 10 ar_int (by decide) (by decide) (by decide) dX0_init_7 rfl (by decide) (by decide) ?_
  refine a_putF fp_X0_9 rfl dX0_init_9 rfl (Nat.le_of_ble_eq_true rfl) (fun _ => ⟨rfl, rfl⟩) ?_
  refine a_aload_n dX0_init_12 rfl ?_
  refine a_bipush 10 dX0_init_13 (by decide) ?_
  refine a_newi 10 ar_int (by decide) (by decide) (by decide) dX0_init_15 rfl (by decide) (by decide) ?_
  refine a_putF fp_X0_15 rfl dX0_init_17 rfl (Nat.le_of_ble_eq_true rfl) (fun _ => ⟨rfl, rfl⟩) ?_
  refine a_aload_n dX0_init_20 rfl ?_
  refine a_bipush 10 dX0_init_21 (by decide) ?_
  refine a_newz 10 ar_boolean (by decide) (by decide) (by decide) dX0_init_23 rfl (by decide) (by decide) ?_
  refine a_putF fp_X0_18 rfl dX0_init_25 rfl (Nat.le_of_ble_eq_true rfl) (fun _ => ⟨rfl, rfl⟩) ?_
  refine a_aload_n dX0_init_28 rfl ?_
  refine a_bipush 10 dX0_init_29 (by decide) ?_
  refine a_newl 10 ar_long (by decide) (by decide) (by decide) dX0_init_31 rfl (by decide) (by decide) ?_
  refine a_putF fp_X0_22 rfl dX0_init_33 rfl (Nat.le_of_ble_eq_true rfl) (fun _ => ⟨rfl, rfl⟩) ?_
  refine a_vret rfl dX0_init_36 (by decide) (by decide) ?_
  exact ⟨rfl, rfl⟩
end FLEETW
