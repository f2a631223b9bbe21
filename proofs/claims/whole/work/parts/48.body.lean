/-! written by wip/whole/pp.py out of wip/whole/src/48.body.lean -/

/-! ===== the law from its entry ===== -/
theorem kw_87 {nm : String} {hh : List (Nat × Nat × Nat × Nat)} : aKI (mLw nm hh) mX6_init 87 0 := ⟨cb_X6_init, rfl, rfl, (Or.inl ml_L_87), iv_X6_init, rfl, ⟨Nat.le_of_ble_eq_true rfl, Nat.le_of_ble_eq_true rfl⟩⟩
theorem kw_90 {nm : String} {hh : List (Nat × Nat × Nat × Nat)} : aKI (mLw nm hh) mX7_init 90 0 := ⟨cb_X7_init, rfl, rfl, (Or.inl ml_L_90), iv_X7_init, rfl, ⟨Nat.le_of_ble_eq_true rfl, Nat.le_of_ble_eq_true rfl⟩⟩
abbrev v0T : sT := (vClr (fun _ => 0, fun _ => 0, fun _ => 0, fun _ => 0, fun _ => 0, fun _ => 0, 0))
abbrev u0T : uT := (13, fFl 61 (fun _ => -1) (fun _ => 0), fun _ => 0, 0, 0)
abbrev m0T : kT := ((fun _ => 0, fun _ => 0, fun _ => 0), 0)
abbrev q0T : qT := (0, fun _ => 0, fun _ => 0, fun _ => 0, fun _ => 0, fun _ => 0, fun _ => 0, fun _ => 0)
theorem rel0 : aR 0 f0T b0T k0T (0, f0T, f0T, f0T, f0T) v0T u0T m0T q0T := by
  refine ⟨⟨fun j hj => ?_, fun j _ h => absurd rfl h, fun j _ => rfl, fun j _ => rfl, ⟨fun j _ => Nat.zero_le _, fun j _ => Nat.zero_le _, fun j _ h => absurd rfl h⟩, List.Perm.refl _, List.Pairwise.nil, fun x hx => absurd hx List.not_mem_nil, Nat.zero_le _⟩, ⟨rfl, by decide, fun j _ => rfl, fun j hj => ?_, rfl, rfl⟩, ⟨List.Perm.refl _, fun a b _ hb => absurd hb (Nat.not_lt_zero b), fun a b ha => absurd ha (Nat.not_lt_zero a), Nat.zero_le _, fun a ha => absurd ha (Nat.not_lt_zero a)⟩, ⟨rfl, Nat.zero_le _, fun a ha => absurd ha (Nat.not_lt_zero a)⟩, ⟨fun j _ => ⟨Int.le_refl _, Int.le_refl _⟩, fun a ha => absurd ha (Nat.not_lt_zero a)⟩⟩
  · show fFl 10 (fun _ => 0) (fun _ => 0) j = _
    simp [fFl, f0T]
  · have hj' : j < 13 := hj
    have : j < 61 := by omega
    show fFl 61 (fun _ => -1) (fun _ => 0) j = mBd 13 f0T.1 f0T.2.1 (cOn f0T) (fun _ => -1) j
    rcases mBd_ok (A := f0T.1) (W := f0T.2.1) (on := cOn f0T) (T := fun _ => -1) (show 13 ∈ slP by decide) j hj' with z | ⟨s, h1, h2, h3⟩
    · rw [z]; simp [fFl, this]
    · cases h2
section LBD
variable {l : Launch} {X : aX} {nm : String} {hh : List (Nat × Nat × Nat × Nat)}
set_option maxRecDepth 20000 in
theorem lw_body (hl : l.stackTraces = false) (hX : aXok X) (hL : X.2.2.2.1 1 ≤ 1536) : aJ l X (mLw nm hh) ([], lG X) 0 0 0 (aPad [.retAddr 1] 10) [] [] := by
  refine a_new (ci := 6) (fs := [.null, .null, .null, .null, .null]) rfl u_X6 tyX6_ok kl_L_8 ins_X6 ini_X6 dL_law_0 (fun j hj => by first | (match j, hj with | 0, _ => rfl | 1, _ => rfl | 2, _ => rfl | 3, _ => rfl | 4, _ => rfl)) (fun _ => rfl) rfl (Nat.le_of_ble_eq_true rfl) (Nat.le_of_ble_eq_true rfl) ?_
  refine a_dup dL_law_3 rfl ?_
  refine a_IvW [0] (_) kw_87 (c_X6_init) dL_law_4 rfl rfl rfl rfl rfl (Nat.le_of_ble_eq_true rfl) ⟨Nat.le_of_ble_eq_true rfl, Nat.le_of_ble_eq_true rfl⟩ (Nat.le_of_ble_eq_true rfl) rfl ?_
  refine a_astore_n dL_law_7 (Nat.le_of_ble_eq_true rfl) rfl ?_
  refine a_new (ci := 7) (fs := [.int 0, .int 0, .null, .null, .null, .null, .null, .null, .int 0, .int 0, .int 0, .null, .null, .int 0, .null, .null, .null, .int 0, .null, .null, .null, .null, .null, .null, .null]) rfl u_X7 tyX7_ok kl_L_88 ins_X7 ini_X7 dL_law_8 (fun j hj => by first | (match j, hj with | 0, _ => rfl | 1, _ => rfl | 2, _ => rfl | 3, _ => rfl | 4, _ => rfl | 5, _ => rfl | 6, _ => rfl | 7, _ => rfl | 8, _ => rfl | 9, _ => rfl | 10, _ => rfl | 11, _ => rfl | 12, _ => rfl | 13, _ => rfl | 14, _ => rfl | 15, _ => rfl | 16, _ => rfl | 17, _ => rfl | 18, _ => rfl | 19, _ => rfl | 20, _ => rfl | 21, _ => rfl | 22, _ => rfl | 23, _ => rfl | 24, _ => rfl | q + 25, h => exact absurd h (by omega))) (fun _ => rfl) rfl (Nat.le_of_ble_eq_true rfl) (Nat.le_of_ble_eq_true rfl) ?_
  refine a_dup dL_law_11 rfl ?_
  refine a_IvW [55] (_) kw_90 (c_X7_init) dL_law_12 rfl rfl rfl rfl rfl (Nat.le_of_ble_eq_true rfl) ⟨Nat.le_of_ble_eq_true rfl, Nat.le_of_ble_eq_true rfl⟩ (Nat.le_of_ble_eq_true rfl) rfl ?_
  refine a_astore_n dL_law_15 (Nat.le_of_ble_eq_true rfl) rfl ?_
  refine a_iconst 1 dL_law_16 (by decide) ?_
  refine a_newl 1 ar_long (by decide) (by decide) (by decide) dL_law_17 rfl (Nat.le_of_ble_eq_true rfl) (Nat.le_of_ble_eq_true rfl) ?_
  refine a_astore_n dL_law_19 (Nat.le_of_ble_eq_true rfl) rfl ?_
  refine a_iconst 1 dL_law_20 (by decide) ?_
  refine a_newd 1 ar_double (by decide) (by decide) (by decide) dL_law_21 rfl (Nat.le_of_ble_eq_true rfl) (Nat.le_of_ble_eq_true rfl) ?_
  refine a_astore dL_law_23 (Nat.le_of_ble_eq_true rfl) rfl ?_
  refine a_iconst 0 dL_law_25 (by decide) ?_
  refine a_istore dL_law_26 (Nat.le_of_ble_eq_true rfl) rfl ?_
  refine a_to rfl rfl rfl (show _ = aLw (aPT f0T b0T k0T (0, f0T, f0T, f0T, f0T)) (aMo 0 v0T u0T m0T q0T) (aLa 1 (fun _ => 0)) (aDa 1 (fun _ => 0)) from rfl) ?_
  exact lw_loop hl hX hL 512 0 _ _ 0 f0T b0T k0T (0, f0T, f0T, f0T, f0T) 0 v0T u0T m0T q0T (fun _ => 0) (fun _ => 0) (by omega) (Nat.zero_le _) (Nat.le_of_ble_eq_true rfl) (Nat.le_of_ble_eq_true rfl) (Int.le_refl _) (by decide) rel0
end LBD
