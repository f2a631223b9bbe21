/-! written by wip/whole/pp.py out of wip/whole/src/16.pins.lean -/
theorem dX2_init_0 : decode cX2_init 0 = .ok (.aload_n 0, 1) := by decide +kernel
theorem dX2_init_1 : decode cX2_init 1 = .ok (.invokespecial 3, 3) := by decide +kernel
theorem dX2_init_4 : decode cX2_init 4 = .ok (.aload_n 0, 1) := by decide +kernel
theorem dX2_init_5 : decode cX2_init 5 = .ok (.bipush 6, 2) := by decide +kernel
theorem dX2_init_7 : decode cX2_init 7 = .ok (.newarray .int, 2) := by decide +kernel
theorem dX2_init_9 : decode cX2_init 9 = .ok (.putfield 9, 3) := by decide +kernel
theorem dX2_init_12 : decode cX2_init 12 = .ok (.aload_n 0, 1) := by decide +kernel
theorem dX2_init_13 : decode cX2_init 13 = .ok (.bipush 6, 2) := by decide +kernel
theorem dX2_init_15 : decode cX2_init 15 = .ok (.newarray .int, 2) := by decide +kernel
theorem dX2_init_17 : decode cX2_init 17 = .ok (.putfield 15, 3) := by decide +kernel
theorem dX2_init_20 : decode cX2_init 20 = .ok (.aload_n 0, 1) := by decide +kernel
theorem dX2_init_21 : decode cX2_init 21 = .ok (.iconst 0, 1) := by decide +kernel
theorem dX2_init_22 : decode cX2_init 22 = .ok (.putfield 18, 3) := by decide +kernel
theorem dX2_init_25 : decode cX2_init 25 = .ok (.return_, 1) := by decide +kernel
theorem dX2_clear_0 : decode cX2_clear 0 = .ok (.aload_n 0, 1) := by decide +kernel
theorem dX2_clear_1 : decode cX2_clear 1 = .ok (.iconst 0, 1) := by decide +kernel
theorem dX2_clear_2 : decode cX2_clear 2 = .ok (.putfield 18, 3) := by decide +kernel
theorem dX2_clear_5 : decode cX2_clear 5 = .ok (.return_, 1) := by decide +kernel
theorem dX2_copyFrom_0 : decode cX2_copyFrom 0 = .ok (.iconst 0, 1) := by decide +kernel
theorem dX2_copyFrom_1 : decode cX2_copyFrom 1 = .ok (.istore_n 2, 1) := by decide +kernel
theorem dX2_copyFrom_2 : decode cX2_copyFrom 2 = .ok (.iload_n 2, 1) := by decide +kernel
theorem dX2_copyFrom_3 : decode cX2_copyFrom 3 = .ok (.bipush 6, 2) := by decide +kernel
theorem dX2_copyFrom_5 : decode cX2_copyFrom 5 = .ok (.if_icmp .ge 33, 3) := by decide +kernel
theorem dX2_copyFrom_8 : decode cX2_copyFrom 8 = .ok (.aload_n 0, 1) := by decide +kernel
theorem dX2_copyFrom_9 : decode cX2_copyFrom 9 = .ok (.getfield 9, 3) := by decide +kernel
theorem dX2_copyFrom_12 : decode cX2_copyFrom 12 = .ok (.iload_n 2, 1) := by decide +kernel
theorem dX2_copyFrom_13 : decode cX2_copyFrom 13 = .ok (.aload_n 1, 1) := by decide +kernel
theorem dX2_copyFrom_14 : decode cX2_copyFrom 14 = .ok (.getfield 9, 3) := by decide +kernel
theorem dX2_copyFrom_17 : decode cX2_copyFrom 17 = .ok (.iload_n 2, 1) := by decide +kernel
theorem dX2_copyFrom_18 : decode cX2_copyFrom 18 = .ok (.iaload, 1) := by decide +kernel
theorem dX2_copyFrom_19 : decode cX2_copyFrom 19 = .ok (.iastore, 1) := by decide +kernel
theorem dX2_copyFrom_20 : decode cX2_copyFrom 20 = .ok (.aload_n 0, 1) := by decide +kernel
theorem dX2_copyFrom_21 : decode cX2_copyFrom 21 = .ok (.getfield 15, 3) := by decide +kernel
theorem dX2_copyFrom_24 : decode cX2_copyFrom 24 = .ok (.iload_n 2, 1) := by decide +kernel
theorem dX2_copyFrom_25 : decode cX2_copyFrom 25 = .ok (.aload_n 1, 1) := by decide +kernel
theorem dX2_copyFrom_26 : decode cX2_copyFrom 26 = .ok (.getfield 15, 3) := by decide +kernel
theorem dX2_copyFrom_29 : decode cX2_copyFrom 29 = .ok (.iload_n 2, 1) := by decide +kernel
theorem dX2_copyFrom_30 : decode cX2_copyFrom 30 = .ok (.iaload, 1) := by decide +kernel
theorem dX2_copyFrom_31 : decode cX2_copyFrom 31 = .ok (.iastore, 1) := by decide +kernel
theorem dX2_copyFrom_32 : decode cX2_copyFrom 32 = .ok (.iinc 2 1, 3) := by decide +kernel
theorem dX2_copyFrom_35 : decode cX2_copyFrom 35 = .ok (.goto (-33), 3) := by decide +kernel
theorem dX2_copyFrom_38 : decode cX2_copyFrom 38 = .ok (.aload_n 0, 1) := by decide +kernel
theorem dX2_copyFrom_39 : decode cX2_copyFrom 39 = .ok (.aload_n 1, 1) := by decide +kernel
theorem dX2_copyFrom_40 : decode cX2_copyFrom 40 = .ok (.getfield 18, 3) := by decide +kernel
theorem dX2_copyFrom_43 : decode cX2_copyFrom 43 = .ok (.putfield 18, 3) := by decide +kernel
theorem dX2_copyFrom_46 : decode cX2_copyFrom 46 = .ok (.return_, 1) := by decide +kernel
theorem dX2_size_0 : decode cX2_size 0 = .ok (.aload_n 0, 1) := by decide +kernel
theorem dX2_size_1 : decode cX2_size 1 = .ok (.getfield 18, 3) := by decide +kernel
theorem dX2_size_4 : decode cX2_size 4 = .ok (.ireturn, 1) := by decide +kernel
theorem dX2_server_0 : decode cX2_server 0 = .ok (.iconst 0, 1) := by decide +kernel
theorem dX2_server_1 : decode cX2_server 1 = .ok (.istore_n 2, 1) := by decide +kernel
theorem dX2_server_2 : decode cX2_server 2 = .ok (.iload_n 2, 1) := by decide +kernel
theorem dX2_server_3 : decode cX2_server 3 = .ok (.aload_n 0, 1) := by decide +kernel
theorem dX2_server_4 : decode cX2_server 4 = .ok (.getfield 18, 3) := by decide +kernel
theorem dX2_server_7 : decode cX2_server 7 = .ok (.if_icmp .ge 32, 3) := by decide +kernel
theorem dX2_server_10 : decode cX2_server 10 = .ok (.iload_n 2, 1) := by decide +kernel
theorem dX2_server_11 : decode cX2_server 11 = .ok (.bipush 6, 2) := by decide +kernel
theorem dX2_server_13 : decode cX2_server 13 = .ok (.if_icmp .ge 26, 3) := by decide +kernel
theorem dX2_server_16 : decode cX2_server 16 = .ok (.aload_n 0, 1) := by decide +kernel
theorem dX2_server_17 : decode cX2_server 17 = .ok (.getfield 9, 3) := by decide +kernel
theorem dX2_server_20 : decode cX2_server 20 = .ok (.iload_n 2, 1) := by decide +kernel
theorem dX2_server_21 : decode cX2_server 21 = .ok (.iaload, 1) := by decide +kernel
theorem dX2_server_22 : decode cX2_server 22 = .ok (.iload_n 1, 1) := by decide +kernel
theorem dX2_server_23 : decode cX2_server 23 = .ok (.if_icmp .ne 10, 3) := by decide +kernel
theorem dX2_server_26 : decode cX2_server 26 = .ok (.aload_n 0, 1) := by decide +kernel
theorem dX2_server_27 : decode cX2_server 27 = .ok (.getfield 15, 3) := by decide +kernel
theorem dX2_server_30 : decode cX2_server 30 = .ok (.iload_n 2, 1) := by decide +kernel
theorem dX2_server_31 : decode cX2_server 31 = .ok (.iaload, 1) := by decide +kernel
theorem dX2_server_32 : decode cX2_server 32 = .ok (.ireturn, 1) := by decide +kernel
theorem dX2_server_33 : decode cX2_server 33 = .ok (.iinc 2 1, 3) := by decide +kernel
theorem dX2_server_36 : decode cX2_server 36 = .ok (.goto (-34), 3) := by decide +kernel
theorem dX2_server_39 : decode cX2_server 39 = .ok (.iconst (-1), 1) := by decide +kernel
theorem dX2_server_40 : decode cX2_server 40 = .ok (.ireturn, 1) := by decide +kernel
theorem dX2_put_0 : decode cX2_put 0 = .ok (.aload_n 0, 1) := by decide +kernel
theorem dX2_put_1 : decode cX2_put 1 = .ok (.iload_n 1, 1) := by decide +kernel
theorem dX2_put_2 : decode cX2_put 2 = .ok (.invokevirtual 22, 3) := by decide +kernel
theorem dX2_put_5 : decode cX2_put 5 = .ok (.aload_n 0, 1) := by decide +kernel
theorem dX2_put_6 : decode cX2_put 6 = .ok (.iload_n 1, 1) := by decide +kernel
theorem dX2_put_7 : decode cX2_put 7 = .ok (.iload_n 2, 1) := by decide +kernel
theorem dX2_put_8 : decode cX2_put 8 = .ok (.invokevirtual 26, 3) := by decide +kernel
theorem dX2_put_11 : decode cX2_put 11 = .ok (.return_, 1) := by decide +kernel
theorem dX2_drop_0 : decode cX2_drop 0 = .ok (.aload_n 0, 1) := by decide +kernel
theorem dX2_drop_1 : decode cX2_drop 1 = .ok (.getfield 18, 3) := by decide +kernel
theorem dX2_drop_4 : decode cX2_drop 4 = .ok (.istore_n 2, 1) := by decide +kernel
theorem dX2_drop_5 : decode cX2_drop 5 = .ok (.aload_n 0, 1) := by decide +kernel
theorem dX2_drop_6 : decode cX2_drop 6 = .ok (.iconst 0, 1) := by decide +kernel
theorem dX2_drop_7 : decode cX2_drop 7 = .ok (.putfield 18, 3) := by decide +kernel
theorem dX2_drop_10 : decode cX2_drop 10 = .ok (.iconst 0, 1) := by decide +kernel
theorem dX2_drop_11 : decode cX2_drop 11 = .ok (.istore_n 3, 1) := by decide +kernel
theorem dX2_drop_12 : decode cX2_drop 12 = .ok (.iload_n 3, 1) := by decide +kernel
theorem dX2_drop_13 : decode cX2_drop 13 = .ok (.iload_n 2, 1) := by decide +kernel
theorem dX2_drop_14 : decode cX2_drop 14 = .ok (.if_icmp .ge 41, 3) := by decide +kernel
theorem dX2_drop_17 : decode cX2_drop 17 = .ok (.iload_n 3, 1) := by decide +kernel
theorem dX2_drop_18 : decode cX2_drop 18 = .ok (.bipush 6, 2) := by decide +kernel
theorem dX2_drop_20 : decode cX2_drop 20 = .ok (.if_icmp .ge 35, 3) := by decide +kernel
theorem dX2_drop_23 : decode cX2_drop 23 = .ok (.aload_n 0, 1) := by decide +kernel
theorem dX2_drop_24 : decode cX2_drop 24 = .ok (.getfield 9, 3) := by decide +kernel
theorem dX2_drop_27 : decode cX2_drop 27 = .ok (.iload_n 3, 1) := by decide +kernel
theorem dX2_drop_28 : decode cX2_drop 28 = .ok (.iaload, 1) := by decide +kernel
theorem dX2_drop_29 : decode cX2_drop 29 = .ok (.iload_n 1, 1) := by decide +kernel
theorem dX2_drop_30 : decode cX2_drop 30 = .ok (.if_icmp .eq 19, 3) := by decide +kernel
theorem dX2_drop_33 : decode cX2_drop 33 = .ok (.aload_n 0, 1) := by decide +kernel
theorem dX2_drop_34 : decode cX2_drop 34 = .ok (.aload_n 0, 1) := by decide +kernel
theorem dX2_drop_35 : decode cX2_drop 35 = .ok (.getfield 9, 3) := by decide +kernel
theorem dX2_drop_38 : decode cX2_drop 38 = .ok (.iload_n 3, 1) := by decide +kernel
theorem dX2_drop_39 : decode cX2_drop 39 = .ok (.iaload, 1) := by decide +kernel
theorem dX2_drop_40 : decode cX2_drop 40 = .ok (.aload_n 0, 1) := by decide +kernel
theorem dX2_drop_41 : decode cX2_drop 41 = .ok (.getfield 15, 3) := by decide +kernel
theorem dX2_drop_44 : decode cX2_drop 44 = .ok (.iload_n 3, 1) := by decide +kernel
theorem dX2_drop_45 : decode cX2_drop 45 = .ok (.iaload, 1) := by decide +kernel
theorem dX2_drop_46 : decode cX2_drop 46 = .ok (.invokevirtual 26, 3) := by decide +kernel
theorem dX2_drop_49 : decode cX2_drop 49 = .ok (.iinc 3 1, 3) := by decide +kernel
theorem dX2_drop_52 : decode cX2_drop 52 = .ok (.goto (-40), 3) := by decide +kernel
theorem dX2_drop_55 : decode cX2_drop 55 = .ok (.return_, 1) := by decide +kernel
theorem dX2_dropServer_0 : decode cX2_dropServer 0 = .ok (.aload_n 0, 1) := by decide +kernel
theorem dX2_dropServer_1 : decode cX2_dropServer 1 = .ok (.getfield 18, 3) := by decide +kernel
theorem dX2_dropServer_4 : decode cX2_dropServer 4 = .ok (.istore_n 2, 1) := by decide +kernel
theorem dX2_dropServer_5 : decode cX2_dropServer 5 = .ok (.aload_n 0, 1) := by decide +kernel
theorem dX2_dropServer_6 : decode cX2_dropServer 6 = .ok (.iconst 0, 1) := by decide +kernel
theorem dX2_dropServer_7 : decode cX2_dropServer 7 = .ok (.putfield 18, 3) := by decide +kernel
theorem dX2_dropServer_10 : decode cX2_dropServer 10 = .ok (.iconst 0, 1) := by decide +kernel
theorem dX2_dropServer_11 : decode cX2_dropServer 11 = .ok (.istore_n 3, 1) := by decide +kernel
theorem dX2_dropServer_12 : decode cX2_dropServer 12 = .ok (.iload_n 3, 1) := by decide +kernel
theorem dX2_dropServer_13 : decode cX2_dropServer 13 = .ok (.iload_n 2, 1) := by decide +kernel
theorem dX2_dropServer_14 : decode cX2_dropServer 14 = .ok (.if_icmp .ge 41, 3) := by decide +kernel
theorem dX2_dropServer_17 : decode cX2_dropServer 17 = .ok (.iload_n 3, 1) := by decide +kernel
theorem dX2_dropServer_18 : decode cX2_dropServer 18 = .ok (.bipush 6, 2) := by decide +kernel
theorem dX2_dropServer_20 : decode cX2_dropServer 20 = .ok (.if_icmp .ge 35, 3) := by decide +kernel
theorem dX2_dropServer_23 : decode cX2_dropServer 23 = .ok (.aload_n 0, 1) := by decide +kernel
theorem dX2_dropServer_24 : decode cX2_dropServer 24 = .ok (.getfield 15, 3) := by decide +kernel
theorem dX2_dropServer_27 : decode cX2_dropServer 27 = .ok (.iload_n 3, 1) := by decide +kernel
theorem dX2_dropServer_28 : decode cX2_dropServer 28 = .ok (.iaload, 1) := by decide +kernel
theorem dX2_dropServer_29 : decode cX2_dropServer 29 = .ok (.iload_n 1, 1) := by decide +kernel
theorem dX2_dropServer_30 : decode cX2_dropServer 30 = .ok (.if_icmp .eq 19, 3) := by decide +kernel
theorem dX2_dropServer_33 : decode cX2_dropServer 33 = .ok (.aload_n 0, 1) := by decide +kernel
theorem dX2_dropServer_34 : decode cX2_dropServer 34 = .ok (.aload_n 0, 1) := by decide +kernel
theorem dX2_dropServer_35 : decode cX2_dropServer 35 = .ok (.getfield 9, 3) := by decide +kernel
theorem dX2_dropServer_38 : decode cX2_dropServer 38 = .ok (.iload_n 3, 1) := by decide +kernel
theorem dX2_dropServer_39 : decode cX2_dropServer 39 = .ok (.iaload, 1) := by decide +kernel
theorem dX2_dropServer_40 : decode cX2_dropServer 40 = .ok (.aload_n 0, 1) := by decide +kernel
theorem dX2_dropServer_41 : decode cX2_dropServer 41 = .ok (.getfield 15, 3) := by decide +kernel
theorem dX2_dropServer_44 : decode cX2_dropServer 44 = .ok (.iload_n 3, 1) := by decide +kernel
theorem dX2_dropServer_45 : decode cX2_dropServer 45 = .ok (.iaload, 1) := by decide +kernel
theorem dX2_dropServer_46 : decode cX2_dropServer 46 = .ok (.invokevirtual 26, 3) := by decide +kernel
theorem dX2_dropServer_49 : decode cX2_dropServer 49 = .ok (.iinc 3 1, 3) := by decide +kernel
theorem dX2_dropServer_52 : decode cX2_dropServer 52 = .ok (.goto (-40), 3) := by decide +kernel
theorem dX2_dropServer_55 : decode cX2_dropServer 55 = .ok (.return_, 1) := by decide +kernel
theorem dX2_append_0 : decode cX2_append 0 = .ok (.aload_n 0, 1) := by decide +kernel
theorem dX2_append_1 : decode cX2_append 1 = .ok (.getfield 18, 3) := by decide +kernel
theorem dX2_append_4 : decode cX2_append 4 = .ok (.ifCond .lt 42, 3) := by decide +kernel
theorem dX2_append_7 : decode cX2_append 7 = .ok (.aload_n 0, 1) := by decide +kernel
theorem dX2_append_8 : decode cX2_append 8 = .ok (.getfield 18, 3) := by decide +kernel
theorem dX2_append_11 : decode cX2_append 11 = .ok (.bipush 6, 2) := by decide +kernel
theorem dX2_append_13 : decode cX2_append 13 = .ok (.if_icmp .ge 33, 3) := by decide +kernel
theorem dX2_append_16 : decode cX2_append 16 = .ok (.aload_n 0, 1) := by decide +kernel
theorem dX2_append_17 : decode cX2_append 17 = .ok (.getfield 9, 3) := by decide +kernel
theorem dX2_append_20 : decode cX2_append 20 = .ok (.aload_n 0, 1) := by decide +kernel
theorem dX2_append_21 : decode cX2_append 21 = .ok (.getfield 18, 3) := by decide +kernel
theorem dX2_append_24 : decode cX2_append 24 = .ok (.iload_n 1, 1) := by decide +kernel
theorem dX2_append_25 : decode cX2_append 25 = .ok (.iastore, 1) := by decide +kernel
theorem dX2_append_26 : decode cX2_append 26 = .ok (.aload_n 0, 1) := by decide +kernel
theorem dX2_append_27 : decode cX2_append 27 = .ok (.getfield 15, 3) := by decide +kernel
theorem dX2_append_30 : decode cX2_append 30 = .ok (.aload_n 0, 1) := by decide +kernel
theorem dX2_append_31 : decode cX2_append 31 = .ok (.getfield 18, 3) := by decide +kernel
theorem dX2_append_34 : decode cX2_append 34 = .ok (.iload_n 2, 1) := by decide +kernel
theorem dX2_append_35 : decode cX2_append 35 = .ok (.iastore, 1) := by decide +kernel
theorem dX2_append_36 : decode cX2_append 36 = .ok (.aload_n 0, 1) := by decide +kernel
theorem dX2_append_37 : decode cX2_append 37 = .ok (.dup, 1) := by decide +kernel
theorem dX2_append_38 : decode cX2_append 38 = .ok (.getfield 18, 3) := by decide +kernel
theorem dX2_append_41 : decode cX2_append 41 = .ok (.iconst 1, 1) := by decide +kernel
theorem dX2_append_42 : decode cX2_append 42 = .ok (.iadd, 1) := by decide +kernel
theorem dX2_append_43 : decode cX2_append 43 = .ok (.putfield 18, 3) := by decide +kernel
theorem dX2_append_46 : decode cX2_append 46 = .ok (.return_, 1) := by decide +kernel
theorem k_X2_drop_26 : aKV mX2_drop mX2_append 26 2 2 := ⟨cb_X2_append, rfl, ml_X2_26, iv_X2_append, sl_X2_append, ⟨_, _, rfl⟩, ⟨Nat.le_of_ble_eq_true rfl, Nat.le_of_ble_eq_true rfl⟩⟩
theorem k_X2_dropServer_26 : aKV mX2_dropServer mX2_append 26 2 2 := ⟨cb_X2_append, rfl, ml_X2_26, iv_X2_append, sl_X2_append, ⟨_, _, rfl⟩, ⟨Nat.le_of_ble_eq_true rfl, Nat.le_of_ble_eq_true rfl⟩⟩
theorem k_X2_put_22 : aKV mX2_put mX2_drop 22 1 2 := ⟨cb_X2_drop, rfl, ml_X2_22, iv_X2_drop, sl_X2_drop, ⟨_, _, rfl⟩, ⟨Nat.le_of_ble_eq_true rfl, Nat.le_of_ble_eq_true rfl⟩⟩
theorem k_X2_put_26 : aKV mX2_put mX2_append 26 2 2 := ⟨cb_X2_append, rfl, ml_X2_26, iv_X2_append, sl_X2_append, ⟨_, _, rfl⟩, ⟨Nat.le_of_ble_eq_true rfl, Nat.le_of_ble_eq_true rfl⟩⟩
/-! ===== Pins ===== -/
/-- the first place that P takes -/
def aFo (P : Nat → Bool) : Nat → Nat → Option Nat
  | 0, _ => none
  | k + 1, j => if P j then some j else aFo P k (j + 1)
def oI (r : Option Nat) : Int32 := match r with
  | some i => nI i
  | none => -1
theorem aFd_o (P : Nat → Bool) : ∀ k j, aFd P k j = oI (aFo P k j)
  | 0, _ => rfl
  | k + 1, j => by
    show (if P j then nI j else aFd P k (j + 1)) = oI (if P j then some j else aFo P k (j + 1))
    by_cases h : P j = true
    · rw [if_pos h, if_pos h]; rfl
    · rw [if_neg h, if_neg h]; exact aFd_o P k (j + 1)
theorem aFo_some {P : Nat → Bool} : ∀ {k j i : Nat}, aFo P k j = some i → j ≤ i ∧ i < j + k ∧ P i = true
  | 0, j, i, h => by cases h
  | k + 1, j, i, h => by
    unfold aFo at h
    by_cases hp : P j = true
    · rw [if_pos hp] at h; cases h; exact ⟨Nat.le_refl _, by omega, hp⟩
    · rw [if_neg hp] at h
      obtain ⟨h1, h2, h3⟩ := aFo_some h
      exact ⟨by omega, by omega, h3⟩
theorem aFo_none {P : Nat → Bool} : ∀ {k j : Nat}, aFo P k j = none → ∀ i, j ≤ i → i < j + k → P i = false
  | 0, j, _, i, h1, h2 => by omega
  | k + 1, j, h, i, h1, h2 => by
    unfold aFo at h
    by_cases hp : P j = true
    · rw [if_pos hp] at h; cases h
    · rw [if_neg hp] at h
      rcases Nat.lt_or_ge j i with q | q
      · exact aFo_none h i (by omega) (by omega)
      · have : i = j := by omega
        subst this
        simpa using hp
theorem nI_m1 {j : Nat} (h : j < 2 ^ 31) : ¬ nI j = -1 := fun e => by
  have := nI_pos' h
  rw [e] at this
  exact absurd this (by decide)
abbrev aPn (pk ps : Nat → Int32) (m : Nat) : List aCell := [aOb 2 [.ref 1, .ref 2, .int (nI m)], aIa 6 pk, aIa 6 ps]
abbrev rs3 : List Nat := [0, 1, 2]
def pSv (pk ps : Nat → Int32) (key : Int32) (m : Nat) : Int32 := match aFo (fun j => decide (pk j = key)) m 0 with
  | some i => ps i
  | none => -1
abbrev pT : Type := (Nat → Int32) × (Nat → Int32) × Nat
def pAp (key sv : Int32) (σ : pT) : pT := (upd σ.1 σ.2.2 key, upd σ.2.1 σ.2.2 sv, σ.2.2 + 1)
def pSt (keep : Int32 → Int32 → Bool) (j : Nat) (σ : pT) : pT := if keep (σ.1 j) (σ.2.1 j) then pAp (σ.1 j) (σ.2.1 j) σ else σ
/-- those that keep takes, closed up -/
def pKe (keep : Int32 → Int32 → Bool) (pk ps : Nat → Int32) (m : Nat) : pT := aLp (pSt keep) m 0 (pk, ps, 0)
theorem pKe_le (keep : Int32 → Int32 → Bool) : ∀ (k j : Nat) (σ : pT), σ.2.2 ≤ j → (aLp (pSt keep) k j σ).2.2 ≤ j + k
  | 0, j, σ, h => h
  | k + 1, j, σ, h => by
    show (aLp (pSt keep) k (j + 1) (pSt keep j σ)).2.2 ≤ _
    have hh : (pSt keep j σ).2.2 ≤ j + 1 := by
      unfold pSt
      split
      · show σ.2.2 + 1 ≤ j + 1
        omega
      · omega
    have := pKe_le keep k (j + 1) (pSt keep j σ) hh
    omega
section PINS
variable {l : Launch} {X : aX} {pk ps : Nat → Int32} {m : Nat}
theorem ge6_f {j : Nat} (h : j < 6) : ¬ (6 : Int32) ≤ nI j := nI_ge (b := 6) h (by decide)
theorem in6 {j : Nat} (h : j < 6) : vp_in (nI j) 6 := vp_in_nI h (by decide)
theorem cl6 {j : Nat} (h : j < 6) : (nI j).toNatClampNeg = j := nI_clamp (by omega)
theorem c_X2_init : aWr l X mX2_init [0] [.ref 0] [aOb 2 [.null, .null, .int 0]] none (aPn (fun _ => 0) (fun _ => 0) 0) := by
  refine aMt.of (by decide) rfl (Nat.le_of_ble_eq_true rfl) ?_
  refine a_aload_n dX2_init_0 rfl ?_
  refine a_objInit ml_X2_3 oi_iv oi_cd dX2_init_1 (by decide) (Nat.le_of_ble_eq_true rfl) ?_
  refine a_aload_n dX2_init_4 rfl ?_
  refine a_bipush 6 dX2_init_5 (by decide) ?_
  refine a_newi 6 ar_int (by decide) (by decide) (by decide) dX2_init_7 rfl (by decide) (by decide) ?_
  refine a_putF fp_X2_9 rfl dX2_init_9 rfl (Nat.le_of_ble_eq_true rfl) (fun _ => ⟨rfl, rfl⟩) ?_
  refine a_aload_n dX2_init_12 rfl ?_
  refine a_bipush 6 dX2_init_13 (by decide) ?_
  refine a_newi 6 ar_int (by decide) (by decide) (by decide) dX2_init_15 rfl (by decide) (by decide) ?_
  refine a_putF fp_X2_15 rfl dX2_init_17 rfl (Nat.le_of_ble_eq_true rfl) (fun _ => ⟨rfl, rfl⟩) ?_
  refine a_aload_n dX2_init_20 rfl ?_
  refine a_iconst 0 dX2_init_21 (by decide) ?_
  refine a_put fp_X2_18 dX2_init_22 rfl (Nat.le_of_ble_eq_true rfl) (fun _ => ⟨rfl, rfl⟩) ?_
  refine a_vret rfl dX2_init_25 (by decide) (by decide) ?_
  exact ⟨rfl, rfl⟩
theorem c_X2_clear : aWr l X mX2_clear rs3 [.ref 0] (aPn pk ps m) none (aPn pk ps 0) := by
  refine aMt.of (by decide) rfl (Nat.le_of_ble_eq_true rfl) ?_
  refine a_aload_n dX2_clear_0 rfl ?_
  refine a_iconst 0 dX2_clear_1 (by decide) ?_
  refine a_put fp_X2_18 dX2_clear_2 rfl (Nat.le_of_ble_eq_true rfl) (fun _ => ⟨rfl, rfl⟩) ?_
  refine a_vret rfl dX2_clear_5 (by decide) (by decide) ?_
  exact ⟨rfl, rfl⟩
theorem c_X2_size : aRd l X mX2_size rs3 [.ref 0] (aPn pk ps m) (.int (nI m)) := by
  refine aMt.of (by decide) rfl (Nat.le_of_ble_eq_true rfl) ?_
  refine a_aload_n dX2_size_0 rfl ?_
  refine a_get fl_X2_18 dX2_size_1 rfl rfl ?_
  refine a_iret rfl dX2_size_4 (by decide) (by decide) ?_
  exact ⟨rfl, rfl⟩
theorem c_X2_server (hm : m ≤ 6) (key : Int32) : aRd l X mX2_server rs3 [.ref 0, .int key] (aPn pk ps m) (.int (pSv pk ps key m)) := by
  refine aMt.of (by decide) rfl (Nat.le_of_ble_eq_true rfl) ?_
  generalize hr : pSv pk ps key m = r
  refine a_iconst 0 dX2_server_0 (by decide) ?_
  refine a_istore_n dX2_server_1 (by decide) rfl ?_
  have lp : ∀ (k j : Nat), j + k = m → (match aFo (fun j => decide (pk j = key)) k j with | some i => ps i | none => -1) = r → aJ l X mX2_server (aEd X mX2_server rs3 (fun o h' => o = .inl (some (.int r)) ∧ h' = aPn pk ps m)) 0 0 2 [.ref 0, .int key, .int (nI j)] [] (aPn pk ps m) := by
    intro k
    induction k with
    | zero =>
      intro j hj hq
      obtain rfl : j = m := by omega
      refine a_iload_n dX2_server_2 rfl ?_
      refine a_aload_n dX2_server_3 rfl ?_
      refine a_get fl_X2_18 dX2_server_4 rfl rfl ?_
      refine a_icmp_ge 39 dX2_server_7 (by decide) (fun _ => ?_) (fun z => absurd (nI_le (Nat.le_refl j) (by omega)) z)
      refine a_iconst (-1) dX2_server_39 (by decide) ?_
      refine a_iret rfl dX2_server_40 (by decide) (by decide) ?_
      exact ⟨by rw [← hq]; rfl, rfl⟩
    | succ k ih =>
      intro j hj hq
      refine a_iload_n dX2_server_2 rfl ?_
      refine a_aload_n dX2_server_3 rfl ?_
      refine a_get fl_X2_18 dX2_server_4 rfl rfl ?_
      refine a_icmp_ge 39 dX2_server_7 (by decide) (fun z => absurd z (nI_ge (by omega) (by omega))) (fun _ => ?_)
      refine a_iload_n dX2_server_10 rfl ?_
      refine a_bipush 6 dX2_server_11 (by decide) ?_
      refine a_icmp_ge 39 dX2_server_13 (by decide) (fun z => absurd z (ge6_f (by omega))) (fun _ => ?_)
      refine a_aload_n dX2_server_16 rfl ?_
      refine a_get fl_X2_9 dX2_server_17 rfl rfl ?_
      refine a_iload_n dX2_server_20 rfl ?_
      refine a_iald dX2_server_21 rfl (in6 (by omega)) ?_
      refine a_iload_n dX2_server_22 rfl ?_
      refine a_icmp_ne 33 dX2_server_23 (by decide) (fun c23 => ?_) (fun c23 => ?_)
      · rw [cl6 (by omega)] at c23
        refine a_iinc (nI (j + 1)) dX2_server_33 rfl (nI_1 _) (by decide) rfl ?_
        refine a_goto 2 dX2_server_36 (by decide) ?_
        exact ih (j + 1) (by omega) (by rw [← hq]; simp [aFo, c23])
      · rw [cl6 (by omega)] at c23
        refine a_aload_n dX2_server_26 rfl ?_
        refine a_get fl_X2_15 dX2_server_27 rfl rfl ?_
        refine a_iload_n dX2_server_30 rfl ?_
        refine a_iald dX2_server_31 rfl (in6 (by omega)) ?_
        refine a_iret rfl dX2_server_32 (by decide) (by decide) ?_
        rw [cl6 (by omega)]
        exact ⟨by rw [← hq]; simp [aFo, c23], rfl⟩
  exact lp m 0 (by omega) hr
theorem c_X2_append (hm : m < 6) (key sv : Int32) : aWr l X mX2_append rs3 [.ref 0, .int key, .int sv] (aPn pk ps m) none (aPn (upd pk m key) (upd ps m sv) (m + 1)) := by
  refine aMt.of (by decide) rfl (Nat.le_of_ble_eq_true rfl) ?_
  have hi : vp_in (nI m) 6 := in6 hm
  refine a_aload_n dX2_append_0 rfl ?_
  refine a_get fl_X2_18 dX2_append_1 rfl rfl ?_
  refine a_if_lt 46 dX2_append_4 (by decide) (fun z => absurd z (nI_pos (by omega))) (fun _ => ?_)
  refine a_aload_n dX2_append_7 rfl ?_
  refine a_get fl_X2_18 dX2_append_8 rfl rfl ?_
  refine a_bipush 6 dX2_append_11 (by decide) ?_
  refine a_icmp_ge 46 dX2_append_13 (by decide) (fun z => absurd z (ge6_f hm)) (fun _ => ?_)
  refine a_aload_n dX2_append_16 rfl ?_
  refine a_get fl_X2_9 dX2_append_17 rfl rfl ?_
  refine a_aload_n dX2_append_20 rfl ?_
  refine a_get fl_X2_18 dX2_append_21 rfl rfl ?_
  refine a_iload_n dX2_append_24 rfl ?_
  refine a_iast dX2_append_25 rfl (by assumption) ?_
  refine a_aload_n dX2_append_26 rfl ?_
  refine a_get fl_X2_15 dX2_append_27 rfl rfl ?_
  refine a_aload_n dX2_append_30 rfl ?_
  refine a_get fl_X2_18 dX2_append_31 rfl rfl ?_
  refine a_iload_n dX2_append_34 rfl ?_
  refine a_iast dX2_append_35 rfl (by assumption) ?_
  refine a_aload_n dX2_append_36 rfl ?_
  refine a_dup dX2_append_37 rfl ?_
  refine a_get fl_X2_18 dX2_append_38 rfl rfl ?_
  refine a_iconst 1 dX2_append_41 (by decide) ?_
  refine a_iadd dX2_append_42 ?_
  refine a_put fp_X2_18 dX2_append_43 rfl (Nat.le_of_ble_eq_true rfl) (fun _ => ⟨rfl, rfl⟩) ?_
  refine a_vret rfl dX2_append_46 (by decide) (by decide) ?_
  refine ⟨rfl, ?_⟩
  rw [cl6 hm, nI_1]
  rfl
theorem c_X2_drop (hm : m ≤ 6) (key : Int32) : aWr l X mX2_drop rs3 [.ref 0, .int key] (aPn pk ps m) none (aPn (pKe (fun k _ => decide (¬ k = key)) pk ps m).1 (pKe (fun k _ => decide (¬ k = key)) pk ps m).2.1 (pKe (fun k _ => decide (¬ k = key)) pk ps m).2.2) := by
  refine aMt.of (by decide) rfl (Nat.le_of_ble_eq_true rfl) ?_
  generalize hr : pKe (fun k _ => decide (¬ k = key)) pk ps m = r
  refine a_aload_n dX2_drop_0 rfl ?_
  refine a_get fl_X2_18 dX2_drop_1 rfl rfl ?_
  refine a_istore_n dX2_drop_4 (by decide) rfl ?_
  refine a_aload_n dX2_drop_5 rfl ?_
  refine a_iconst 0 dX2_drop_6 (by decide) ?_
  refine a_put fp_X2_18 dX2_drop_7 rfl (Nat.le_of_ble_eq_true rfl) (fun _ => ⟨rfl, rfl⟩) ?_
  refine a_iconst 0 dX2_drop_10 (by decide) ?_
  refine a_istore_n dX2_drop_11 (by decide) rfl ?_
  have lp : ∀ (k j : Nat) (σ : pT), j + k = m → σ.2.2 ≤ j → aLp (pSt (fun k _ => decide (¬ k = key))) k j σ = r → aJ l X mX2_drop (aEd X mX2_drop rs3 (fun o h' => o = .inl none ∧ h' = aPn r.1 r.2.1 r.2.2)) 0 0 12 [.ref 0, .int key, .int (nI m), .int (nI j)] [] (aPn σ.1 σ.2.1 σ.2.2) := by
    intro k
    induction k with
    | zero =>
      intro j σ hj hc hq
      obtain rfl : j = m := by omega
      refine a_iload_n dX2_drop_12 rfl ?_
      refine a_iload_n dX2_drop_13 rfl ?_
      refine a_icmp_ge 55 dX2_drop_14 (by decide) (fun _ => ?_) (fun z => absurd (nI_le (Nat.le_refl j) (by omega)) z)
      refine a_vret rfl dX2_drop_55 (by decide) (by decide) ?_
      exact ⟨rfl, by rw [← hq]; rfl⟩
    | succ k ih =>
      intro j σ hj hc hq
      have hi : vp_in (nI j) 6 := in6 (by omega)
      refine a_iload_n dX2_drop_12 rfl ?_
      refine a_iload_n dX2_drop_13 rfl ?_
      refine a_icmp_ge 55 dX2_drop_14 (by decide) (fun z => absurd z (nI_ge (by omega) (by omega))) (fun _ => ?_)
      refine a_iload_n dX2_drop_17 rfl ?_
      refine a_bipush 6 dX2_drop_18 (by decide) ?_
      refine a_icmp_ge 55 dX2_drop_20 (by decide) (fun z => absurd z (ge6_f (by omega))) (fun _ => ?_)
      refine a_aload_n dX2_drop_23 rfl ?_
      refine a_get fl_X2_9 dX2_drop_24 rfl rfl ?_
      refine a_iload_n dX2_drop_27 rfl ?_
      refine a_iald dX2_drop_28 rfl (by assumption) ?_
      refine a_iload_n dX2_drop_29 rfl ?_
      refine a_icmp_eq 49 dX2_drop_30 (by decide) (fun c30 => ?_) (fun c30 => ?_)
      · rw [cl6 (by omega)] at c30
        refine a_iinc (nI (j + 1)) dX2_drop_49 rfl (nI_1 _) (by decide) rfl ?_
        refine a_goto 12 dX2_drop_52 (by decide) ?_
        exact ih (j + 1) σ (by omega) (by omega) (by rw [← hq]; simp [aLp, pSt, c30])
      · rw [cl6 (by omega)] at c30
        refine a_aload_n dX2_drop_33 rfl ?_
        refine a_aload_n dX2_drop_34 rfl ?_
        refine a_get fl_X2_9 dX2_drop_35 rfl rfl ?_
        refine a_iload_n dX2_drop_38 rfl ?_
        refine a_iald dX2_drop_39 rfl (by assumption) ?_
        refine a_aload_n dX2_drop_40 rfl ?_
        refine a_get fl_X2_15 dX2_drop_41 rfl rfl ?_
        refine a_iload_n dX2_drop_44 rfl ?_
        refine a_iald dX2_drop_45 rfl (by assumption) ?_
        refine a_VvW [0, 1, 2] (aPn (upd σ.1 σ.2.2 (σ.1 (nI j).toNatClampNeg)) (upd σ.2.1 σ.2.2 (σ.2.1 (nI j).toNatClampNeg)) (σ.2.2 + 1)) k_X2_drop_26 (c_X2_append (by omega) _ _) dX2_drop_46 rfl rfl rfl rfl rfl rfl (Nat.le_of_ble_eq_true rfl) ⟨Nat.le_of_ble_eq_true rfl, Nat.le_of_ble_eq_true rfl⟩ ⟨rfl, rfl⟩ (Nat.le_of_ble_eq_true rfl) rfl ?_
        refine a_iinc (nI (j + 1)) dX2_drop_49 rfl (nI_1 _) (by decide) rfl ?_
        refine a_goto 12 dX2_drop_52 (by decide) ?_
        rw [cl6 (by omega)]
        exact ih (j + 1) (pAp (σ.1 j) (σ.2.1 j) σ) (by omega) (by show σ.2.2 + 1 ≤ j + 1; omega) (by rw [← hq]; simp [aLp, pSt, c30])
  exact lp m 0 (pk, ps, 0) (by omega) (Nat.le_refl _) hr
theorem c_X2_dropServer (hm : m ≤ 6) (key : Int32) : aWr l X mX2_dropServer rs3 [.ref 0, .int key] (aPn pk ps m) none (aPn (pKe (fun _ k => decide (¬ k = key)) pk ps m).1 (pKe (fun _ k => decide (¬ k = key)) pk ps m).2.1 (pKe (fun _ k => decide (¬ k = key)) pk ps m).2.2) := by
  refine aMt.of (by decide) rfl (Nat.le_of_ble_eq_true rfl) ?_
  generalize hr : pKe (fun _ k => decide (¬ k = key)) pk ps m = r
  refine a_aload_n dX2_dropServer_0 rfl ?_
  refine a_get fl_X2_18 dX2_dropServer_1 rfl rfl ?_
  refine a_istore_n dX2_dropServer_4 (by decide) rfl ?_
  refine a_aload_n dX2_dropServer_5 rfl ?_
  refine a_iconst 0 dX2_dropServer_6 (by decide) ?_
  refine a_put fp_X2_18 dX2_dropServer_7 rfl (Nat.le_of_ble_eq_true rfl) (fun _ => ⟨rfl, rfl⟩) ?_
  refine a_iconst 0 dX2_dropServer_10 (by decide) ?_
  refine a_istore_n dX2_dropServer_11 (by decide) rfl ?_
  have lp : ∀ (k j : Nat) (σ : pT), j + k = m → σ.2.2 ≤ j → aLp (pSt (fun _ k => decide (¬ k = key))) k j σ = r → aJ l X mX2_dropServer (aEd X mX2_dropServer rs3 (fun o h' => o = .inl none ∧ h' = aPn r.1 r.2.1 r.2.2)) 0 0 12 [.ref 0, .int key, .int (nI m), .int (nI j)] [] (aPn σ.1 σ.2.1 σ.2.2) := by
    intro k
    induction k with
    | zero =>
      intro j σ hj hc hq
      obtain rfl : j = m := by omega
      refine a_iload_n dX2_dropServer_12 rfl ?_
      refine a_iload_n dX2_dropServer_13 rfl ?_
      refine a_icmp_ge 55 dX2_dropServer_14 (by decide) (fun _ => ?_) (fun z => absurd (nI_le (Nat.le_refl j) (by omega)) z)
      refine a_vret rfl dX2_dropServer_55 (by decide) (by decide) ?_
      exact ⟨rfl, by rw [← hq]; rfl⟩
    | succ k ih =>
      intro j σ hj hc hq
      have hi : vp_in (nI j) 6 := in6 (by omega)
      refine a_iload_n dX2_dropServer_12 rfl ?_
      refine a_iload_n dX2_dropServer_13 rfl ?_
      refine a_icmp_ge 55 dX2_dropServer_14 (by decide) (fun z => absurd z (nI_ge (by omega) (by omega))) (fun _ => ?_)
      refine a_iload_n dX2_dropServer_17 rfl ?_
      refine a_bipush 6 dX2_dropServer_18 (by decide) ?_
      refine a_icmp_ge 55 dX2_dropServer_20 (by decide) (fun z => absurd z (ge6_f (by omega))) (fun _ => ?_)
      refine a_aload_n dX2_dropServer_23 rfl ?_
      refine a_get fl_X2_15 dX2_dropServer_24 rfl rfl ?_
      refine a_iload_n dX2_dropServer_27 rfl ?_
      refine a_iald dX2_dropServer_28 rfl (by assumption) ?_
      refine a_iload_n dX2_dropServer_29 rfl ?_
      refine a_icmp_eq 49 dX2_dropServer_30 (by decide) (fun c30 => ?_) (fun c30 => ?_)
      · rw [cl6 (by omega)] at c30
        refine a_iinc (nI (j + 1)) dX2_dropServer_49 rfl (nI_1 _) (by decide) rfl ?_
        refine a_goto 12 dX2_dropServer_52 (by decide) ?_
        exact ih (j + 1) σ (by omega) (by omega) (by rw [← hq]; simp [aLp, pSt, c30])
      · rw [cl6 (by omega)] at c30
        refine a_aload_n dX2_dropServer_33 rfl ?_
        refine a_aload_n dX2_dropServer_34 rfl ?_
        refine a_get fl_X2_9 dX2_dropServer_35 rfl rfl ?_
        refine a_iload_n dX2_dropServer_38 rfl ?_
        refine a_iald dX2_dropServer_39 rfl (by assumption) ?_
        refine a_aload_n dX2_dropServer_40 rfl ?_
        refine a_get fl_X2_15 dX2_dropServer_41 rfl rfl ?_
        refine a_iload_n dX2_dropServer_44 rfl ?_
        refine a_iald dX2_dropServer_45 rfl (by assumption) ?_
        refine a_VvW [0, 1, 2] (aPn (upd σ.1 σ.2.2 (σ.1 (nI j).toNatClampNeg)) (upd σ.2.1 σ.2.2 (σ.2.1 (nI j).toNatClampNeg)) (σ.2.2 + 1)) k_X2_dropServer_26 (c_X2_append (by omega) _ _) dX2_dropServer_46 rfl rfl rfl rfl rfl rfl (Nat.le_of_ble_eq_true rfl) ⟨Nat.le_of_ble_eq_true rfl, Nat.le_of_ble_eq_true rfl⟩ ⟨rfl, rfl⟩ (Nat.le_of_ble_eq_true rfl) rfl ?_
        refine a_iinc (nI (j + 1)) dX2_dropServer_49 rfl (nI_1 _) (by decide) rfl ?_
        refine a_goto 12 dX2_dropServer_52 (by decide) ?_
        rw [cl6 (by omega)]
        exact ih (j + 1) (pAp (σ.1 j) (σ.2.1 j) σ) (by omega) (by show σ.2.2 + 1 ≤ j + 1; omega) (by rw [← hq]; simp [aLp, pSt, c30])
  exact lp m 0 (pk, ps, 0) (by omega) (Nat.le_refl _) hr
theorem c_X2_put (hm : m ≤ 6) (key sv : Int32) (hc : (pKe (fun k _ => decide (¬ k = key)) pk ps m).2.2 < 6) : aWr l X mX2_put rs3 [.ref 0, .int key, .int sv] (aPn pk ps m) none (aPn (pAp key sv (pKe (fun k _ => decide (¬ k = key)) pk ps m)).1 (pAp key sv (pKe (fun k _ => decide (¬ k = key)) pk ps m)).2.1 (pAp key sv (pKe (fun k _ => decide (¬ k = key)) pk ps m)).2.2) := by
  refine aMt.of (by decide) rfl (Nat.le_of_ble_eq_true rfl) ?_
  generalize hr : pKe (fun k _ => decide (¬ k = key)) pk ps m = r at hc
  have hdr := c_X2_drop (l := l) (X := X) (pk := pk) (ps := ps) hm key
  rw [hr] at hdr
  refine a_aload_n dX2_put_0 rfl ?_
  refine a_iload_n dX2_put_1 rfl ?_
  refine a_VvW [0, 1, 2] (aPn r.1 r.2.1 r.2.2) k_X2_put_22 (hdr) dX2_put_2 rfl rfl rfl rfl rfl rfl (Nat.le_of_ble_eq_true rfl) ⟨Nat.le_of_ble_eq_true rfl, Nat.le_of_ble_eq_true rfl⟩ ⟨rfl, rfl⟩ (Nat.le_of_ble_eq_true rfl) rfl ?_
  refine a_aload_n dX2_put_5 rfl ?_
  refine a_iload_n dX2_put_6 rfl ?_
  refine a_iload_n dX2_put_7 rfl ?_
  refine a_VvW [0, 1, 2] (aPn (pAp key sv r).1 (pAp key sv r).2.1 (pAp key sv r).2.2) k_X2_put_26 (c_X2_append (pk := r.1) (ps := r.2.1) hc key sv) dX2_put_8 rfl rfl rfl rfl rfl rfl (Nat.le_of_ble_eq_true rfl) ⟨Nat.le_of_ble_eq_true rfl, Nat.le_of_ble_eq_true rfl⟩ ⟨rfl, rfl⟩ (Nat.le_of_ble_eq_true rfl) rfl ?_
  refine a_vret rfl dX2_put_11 (by decide) (by decide) ?_
  exact ⟨rfl, rfl⟩
abbrev aPn2 (pk ps : Nat → Int32) (m : Nat) (pk2 ps2 : Nat → Int32) (m2 : Nat) : List aCell := [aOb 2 [.ref 1, .ref 2, .int (nI m)], aIa 6 pk, aIa 6 ps, aOb 2 [.ref 4, .ref 5, .int (nI m2)], aIa 6 pk2, aIa 6 ps2]
abbrev rs6 : List Nat := [0, 1, 2, 3, 4, 5]
theorem c_X2_copyFrom {pk2 ps2 : Nat → Int32} {m2 : Nat} : aWr l X mX2_copyFrom rs6 [.ref 0, .ref 3] (aPn2 pk ps m pk2 ps2 m2) none (aPn2 (fFl 6 pk2 pk) (fFl 6 ps2 ps) m2 pk2 ps2 m2) := by
  refine aMt.of (by decide) rfl (Nat.le_of_ble_eq_true rfl) ?_
  refine a_iconst 0 dX2_copyFrom_0 (by decide) ?_
  refine a_istore_n dX2_copyFrom_1 (by decide) rfl ?_
  have lp : ∀ (k j : Nat), j + k = 6 → aJ l X mX2_copyFrom (aEd X mX2_copyFrom rs6 (fun o h' => o = .inl none ∧ h' = aPn2 (fFl 6 pk2 pk) (fFl 6 ps2 ps) m2 pk2 ps2 m2)) 0 0 2 [.ref 0, .ref 3, .int (nI j)] [] (aPn2 (fFl j pk2 pk) (fFl j ps2 ps) m pk2 ps2 m2) := by
    intro k
    induction k with
    | zero =>
      intro j hj
      obtain rfl : j = 6 := by omega
      refine a_iload_n dX2_copyFrom_2 rfl ?_
      refine a_bipush 6 dX2_copyFrom_3 (by decide) ?_
      refine a_icmp_ge 38 dX2_copyFrom_5 (by decide) (fun _ => ?_) (fun z => absurd (by decide) z)
      refine a_aload_n dX2_copyFrom_38 rfl ?_
      refine a_aload_n dX2_copyFrom_39 rfl ?_
      refine a_get fl_X2_18 dX2_copyFrom_40 rfl rfl ?_
      refine a_put fp_X2_18 dX2_copyFrom_43 rfl (Nat.le_of_ble_eq_true rfl) (fun _ => ⟨rfl, rfl⟩) ?_
      refine a_vret rfl dX2_copyFrom_46 (by decide) (by decide) ?_
      exact ⟨rfl, rfl⟩
    | succ k ih =>
      intro j hj
      have hi : vp_in (nI j) 6 := in6 (by omega)
      refine a_iload_n dX2_copyFrom_2 rfl ?_
      refine a_bipush 6 dX2_copyFrom_3 (by decide) ?_
      refine a_icmp_ge 38 dX2_copyFrom_5 (by decide) (fun z => absurd z (ge6_f (by omega))) (fun _ => ?_)
      refine a_aload_n dX2_copyFrom_8 rfl ?_
      refine a_get fl_X2_9 dX2_copyFrom_9 rfl rfl ?_
      refine a_iload_n dX2_copyFrom_12 rfl ?_
      refine a_aload_n dX2_copyFrom_13 rfl ?_
      refine a_get fl_X2_9 dX2_copyFrom_14 rfl rfl ?_
      refine a_iload_n dX2_copyFrom_17 rfl ?_
      refine a_iald dX2_copyFrom_18 rfl (by assumption) ?_
      refine a_iast dX2_copyFrom_19 rfl (by assumption) ?_
      refine a_aload_n dX2_copyFrom_20 rfl ?_
      refine a_get fl_X2_15 dX2_copyFrom_21 rfl rfl ?_
      refine a_iload_n dX2_copyFrom_24 rfl ?_
      refine a_aload_n dX2_copyFrom_25 rfl ?_
      refine a_get fl_X2_15 dX2_copyFrom_26 rfl rfl ?_
      refine a_iload_n dX2_copyFrom_29 rfl ?_
      refine a_iald dX2_copyFrom_30 rfl (by assumption) ?_
      refine a_iast dX2_copyFrom_31 rfl (by assumption) ?_
      refine a_iinc (nI (j + 1)) dX2_copyFrom_32 rfl (nI_1 _) (by decide) rfl ?_
      refine a_goto 2 dX2_copyFrom_35 (by decide) ?_
      refine a_to rfl rfl rfl ?_ (ih (j + 1) (by omega))
      have e : (nI j).toNatClampNeg = j := cl6 (by omega)
      rw [e, fFl_s, fFl_s]
      rfl
  have := lp 6 0 (by omega)
  rw [fFl_0, fFl_0] at this
  exact this
end PINS
