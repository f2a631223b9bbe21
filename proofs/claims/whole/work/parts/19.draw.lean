/-! written by wip/whole/pp.py out of wip/whole/src/19.draw.lean -/
theorem dX3_draw_0 : decode cX3_draw 0 = .ok (.aload_n 0, 1) := by decide +kernel
theorem dX3_draw_1 : decode cX3_draw 1 = .ok (.getfield 15, 3) := by decide +kernel
theorem dX3_draw_4 : decode cX3_draw 4 = .ok (.iconst (-1), 1) := by decide +kernel
theorem dX3_draw_5 : decode cX3_draw 5 = .ok (.invokestatic 35, 3) := by decide +kernel
theorem dX3_draw_8 : decode cX3_draw 8 = .ok (.aload_n 0, 1) := by decide +kernel
theorem dX3_draw_9 : decode cX3_draw 9 = .ok (.getfield 18, 3) := by decide +kernel
theorem dX3_draw_12 : decode cX3_draw 12 = .ok (.iconst 0, 1) := by decide +kernel
theorem dX3_draw_13 : decode cX3_draw 13 = .ok (.invokestatic 35, 3) := by decide +kernel
theorem dX3_draw_16 : decode cX3_draw 16 = .ok (.aload_n 1, 1) := by decide +kernel
theorem dX3_draw_17 : decode cX3_draw 17 = .ok (.iload_n 2, 1) := by decide +kernel
theorem dX3_draw_18 : decode cX3_draw 18 = .ok (.invokevirtual 78, 3) := by decide +kernel
theorem dX3_draw_21 : decode cX3_draw 21 = .ok (.istore_n 3, 1) := by decide +kernel
theorem dX3_draw_22 : decode cX3_draw 22 = .ok (.iload_n 3, 1) := by decide +kernel
theorem dX3_draw_23 : decode cX3_draw 23 = .ok (.ifCond .le 10, 3) := by decide +kernel
theorem dX3_draw_26 : decode cX3_draw 26 = .ok (.aload_n 0, 1) := by decide +kernel
theorem dX3_draw_27 : decode cX3_draw 27 = .ok (.getfield 31, 3) := by decide +kernel
theorem dX3_draw_30 : decode cX3_draw 30 = .ok (.goto 4, 3) := by decide +kernel
theorem dX3_draw_33 : decode cX3_draw 33 = .ok (.iconst 0, 1) := by decide +kernel
theorem dX3_draw_34 : decode cX3_draw 34 = .ok (.istore 4, 2) := by decide +kernel
theorem dX3_draw_36 : decode cX3_draw 36 = .ok (.iconst 1, 1) := by decide +kernel
theorem dX3_draw_37 : decode cX3_draw 37 = .ok (.istore 5, 2) := by decide +kernel
theorem dX3_draw_39 : decode cX3_draw 39 = .ok (.iload 5, 2) := by decide +kernel
theorem dX3_draw_41 : decode cX3_draw 41 = .ok (.aload_n 0, 1) := by decide +kernel
theorem dX3_draw_42 : decode cX3_draw 42 = .ok (.getfield 31, 3) := by decide +kernel
theorem dX3_draw_45 : decode cX3_draw 45 = .ok (.if_icmp .gt 83, 3) := by decide +kernel
theorem dX3_draw_48 : decode cX3_draw 48 = .ok (.iload 4, 2) := by decide +kernel
theorem dX3_draw_50 : decode cX3_draw 50 = .ok (.ifCond .le 78, 3) := by decide +kernel
theorem dX3_draw_53 : decode cX3_draw 53 = .ok (.iconst 0, 1) := by decide +kernel
theorem dX3_draw_54 : decode cX3_draw 54 = .ok (.istore 6, 2) := by decide +kernel
theorem dX3_draw_56 : decode cX3_draw 56 = .ok (.iload 6, 2) := by decide +kernel
theorem dX3_draw_58 : decode cX3_draw 58 = .ok (.bipush 10, 2) := by decide +kernel
theorem dX3_draw_60 : decode cX3_draw 60 = .ok (.if_icmp .ge 62, 3) := by decide +kernel
theorem dX3_draw_63 : decode cX3_draw 63 = .ok (.iload 4, 2) := by decide +kernel
theorem dX3_draw_65 : decode cX3_draw 65 = .ok (.ifCond .le 57, 3) := by decide +kernel
theorem dX3_draw_68 : decode cX3_draw 68 = .ok (.iload 6, 2) := by decide +kernel
theorem dX3_draw_70 : decode cX3_draw 70 = .ok (.iload_n 2, 1) := by decide +kernel
theorem dX3_draw_71 : decode cX3_draw 71 = .ok (.if_icmp .eq 45, 3) := by decide +kernel
theorem dX3_draw_74 : decode cX3_draw 74 = .ok (.aload_n 1, 1) := by decide +kernel
theorem dX3_draw_75 : decode cX3_draw 75 = .ok (.iload 6, 2) := by decide +kernel
theorem dX3_draw_77 : decode cX3_draw 77 = .ok (.invokevirtual 73, 3) := by decide +kernel
theorem dX3_draw_80 : decode cX3_draw 80 = .ok (.ifCond .eq 36, 3) := by decide +kernel
theorem dX3_draw_83 : decode cX3_draw 83 = .ok (.iload 5, 2) := by decide +kernel
theorem dX3_draw_85 : decode cX3_draw 85 = .ok (.aload_n 1, 1) := by decide +kernel
theorem dX3_draw_86 : decode cX3_draw 86 = .ok (.iload 6, 2) := by decide +kernel
theorem dX3_draw_88 : decode cX3_draw 88 = .ok (.invokevirtual 82, 3) := by decide +kernel
theorem dX3_draw_91 : decode cX3_draw 91 = .ok (.iload_n 3, 1) := by decide +kernel
theorem dX3_draw_92 : decode cX3_draw 92 = .ok (.invokestatic 85, 3) := by decide +kernel
theorem dX3_draw_95 : decode cX3_draw 95 = .ok (.ifCond .eq 21, 3) := by decide +kernel
theorem dX3_draw_98 : decode cX3_draw 98 = .ok (.aload_n 0, 1) := by decide +kernel
theorem dX3_draw_99 : decode cX3_draw 99 = .ok (.iload 6, 2) := by decide +kernel
theorem dX3_draw_101 : decode cX3_draw 101 = .ok (.aload_n 1, 1) := by decide +kernel
theorem dX3_draw_102 : decode cX3_draw 102 = .ok (.iload 6, 2) := by decide +kernel
theorem dX3_draw_104 : decode cX3_draw 104 = .ok (.invokevirtual 89, 3) := by decide +kernel
theorem dX3_draw_107 : decode cX3_draw 107 = .ok (.invokevirtual 92, 3) := by decide +kernel
theorem dX3_draw_110 : decode cX3_draw 110 = .ok (.ifCond .eq 6, 3) := by decide +kernel
theorem dX3_draw_113 : decode cX3_draw 113 = .ok (.iinc 4 (-1), 3) := by decide +kernel
theorem dX3_draw_116 : decode cX3_draw 116 = .ok (.iinc 6 1, 3) := by decide +kernel
theorem dX3_draw_119 : decode cX3_draw 119 = .ok (.goto (-63), 3) := by decide +kernel
theorem dX3_draw_122 : decode cX3_draw 122 = .ok (.iinc 5 1, 3) := by decide +kernel
theorem dX3_draw_125 : decode cX3_draw 125 = .ok (.goto (-86), 3) := by decide +kernel
theorem dX3_draw_128 : decode cX3_draw 128 = .ok (.return_, 1) := by decide +kernel
theorem dX3_claim_0 : decode cX3_claim 0 = .ok (.aload_n 0, 1) := by decide +kernel
theorem dX3_claim_1 : decode cX3_claim 1 = .ok (.getfield 18, 3) := by decide +kernel
theorem dX3_claim_4 : decode cX3_claim 4 = .ok (.iload_n 1, 1) := by decide +kernel
theorem dX3_claim_5 : decode cX3_claim 5 = .ok (.iaload, 1) := by decide +kernel
theorem dX3_claim_6 : decode cX3_claim 6 = .ok (.istore_n 3, 1) := by decide +kernel
theorem dX3_claim_7 : decode cX3_claim 7 = .ok (.iload_n 3, 1) := by decide +kernel
theorem dX3_claim_8 : decode cX3_claim 8 = .ok (.aload_n 0, 1) := by decide +kernel
theorem dX3_claim_9 : decode cX3_claim 9 = .ok (.getfield 31, 3) := by decide +kernel
theorem dX3_claim_12 : decode cX3_claim 12 = .ok (.if_icmp .ge 56, 3) := by decide +kernel
theorem dX3_claim_15 : decode cX3_claim 15 = .ok (.aload_n 0, 1) := by decide +kernel
theorem dX3_claim_16 : decode cX3_claim 16 = .ok (.iload_n 2, 1) := by decide +kernel
theorem dX3_claim_17 : decode cX3_claim 17 = .ok (.iload_n 3, 1) := by decide +kernel
theorem dX3_claim_18 : decode cX3_claim 18 = .ok (.invokevirtual 96, 3) := by decide +kernel
theorem dX3_claim_21 : decode cX3_claim 21 = .ok (.istore 4, 2) := by decide +kernel
theorem dX3_claim_23 : decode cX3_claim 23 = .ok (.aload_n 0, 1) := by decide +kernel
theorem dX3_claim_24 : decode cX3_claim 24 = .ok (.iload 4, 2) := by decide +kernel
theorem dX3_claim_26 : decode cX3_claim 26 = .ok (.invokevirtual 47, 3) := by decide +kernel
theorem dX3_claim_29 : decode cX3_claim 29 = .ok (.ifCond .eq 33, 3) := by decide +kernel
theorem dX3_claim_32 : decode cX3_claim 32 = .ok (.aload_n 0, 1) := by decide +kernel
theorem dX3_claim_33 : decode cX3_claim 33 = .ok (.getfield 15, 3) := by decide +kernel
theorem dX3_claim_36 : decode cX3_claim 36 = .ok (.iload 4, 2) := by decide +kernel
theorem dX3_claim_38 : decode cX3_claim 38 = .ok (.iaload, 1) := by decide +kernel
theorem dX3_claim_39 : decode cX3_claim 39 = .ok (.iconst (-1), 1) := by decide +kernel
theorem dX3_claim_40 : decode cX3_claim 40 = .ok (.if_icmp .ne 22, 3) := by decide +kernel
theorem dX3_claim_43 : decode cX3_claim 43 = .ok (.aload_n 0, 1) := by decide +kernel
theorem dX3_claim_44 : decode cX3_claim 44 = .ok (.getfield 15, 3) := by decide +kernel
theorem dX3_claim_47 : decode cX3_claim 47 = .ok (.iload 4, 2) := by decide +kernel
theorem dX3_claim_49 : decode cX3_claim 49 = .ok (.iload_n 1, 1) := by decide +kernel
theorem dX3_claim_50 : decode cX3_claim 50 = .ok (.iastore, 1) := by decide +kernel
theorem dX3_claim_51 : decode cX3_claim 51 = .ok (.aload_n 0, 1) := by decide +kernel
theorem dX3_claim_52 : decode cX3_claim 52 = .ok (.getfield 18, 3) := by decide +kernel
theorem dX3_claim_55 : decode cX3_claim 55 = .ok (.iload_n 1, 1) := by decide +kernel
theorem dX3_claim_56 : decode cX3_claim 56 = .ok (.iload_n 3, 1) := by decide +kernel
theorem dX3_claim_57 : decode cX3_claim 57 = .ok (.iconst 1, 1) := by decide +kernel
theorem dX3_claim_58 : decode cX3_claim 58 = .ok (.iadd, 1) := by decide +kernel
theorem dX3_claim_59 : decode cX3_claim 59 = .ok (.iastore, 1) := by decide +kernel
theorem dX3_claim_60 : decode cX3_claim 60 = .ok (.iconst 1, 1) := by decide +kernel
theorem dX3_claim_61 : decode cX3_claim 61 = .ok (.ireturn, 1) := by decide +kernel
theorem dX3_claim_62 : decode cX3_claim 62 = .ok (.iinc 3 1, 3) := by decide +kernel
theorem dX3_claim_65 : decode cX3_claim 65 = .ok (.goto (-58), 3) := by decide +kernel
theorem dX3_claim_68 : decode cX3_claim 68 = .ok (.iconst 0, 1) := by decide +kernel
theorem dX3_claim_69 : decode cX3_claim 69 = .ok (.ireturn, 1) := by decide +kernel
theorem k_X3_claim_96 : aKV mX3_claim mX3_preferredSlot 96 2 3 := ⟨cb_X3_preferredSlot, rfl, ml_X3_96, iv_X3_preferredSlot, sl_X3_preferredSlot, ⟨_, _, rfl⟩, ⟨Nat.le_of_ble_eq_true rfl, Nat.le_of_ble_eq_true rfl⟩⟩
theorem k_X3_claim_47 : aKV mX3_claim mX3_isSlot 47 1 3 := ⟨cb_X3_isSlot, rfl, ml_X3_47, iv_X3_isSlot, sl_X3_isSlot, ⟨_, _, rfl⟩, ⟨Nat.le_of_ble_eq_true rfl, Nat.le_of_ble_eq_true rfl⟩⟩
theorem k_X3_draw_35 : aKS mX3_draw mJ7_fill_53178 35 2 := ⟨cb_J7_fill_53178, rfl, ml_X3_35, st_J7_fill_53178, ⟨Nat.le_of_ble_eq_true rfl, Nat.le_of_ble_eq_true rfl⟩⟩
theorem k_X3_draw_78 : aKV mX3_draw mX0_greatestWeightWithout 78 1 0 := ⟨cb_X0_greatestWeightWithout, rfl, ml_X3_78, iv_X0_greatestWeightWithout, sl_X0_greatestWeightWithout, ⟨_, _, rfl⟩, ⟨Nat.le_of_ble_eq_true rfl, Nat.le_of_ble_eq_true rfl⟩⟩
theorem k_X3_draw_73 : aKV mX3_draw mX0_isUp 73 1 0 := ⟨cb_X0_isUp, rfl, ml_X3_73, iv_X0_isUp, sl_X0_isUp, ⟨_, _, rfl⟩, ⟨Nat.le_of_ble_eq_true rfl, Nat.le_of_ble_eq_true rfl⟩⟩
theorem k_X3_draw_82 : aKV mX3_draw mX0_weight 82 1 0 := ⟨cb_X0_weight, rfl, ml_X3_82, iv_X0_weight, sl_X0_weight, ⟨_, _, rfl⟩, ⟨Nat.le_of_ble_eq_true rfl, Nat.le_of_ble_eq_true rfl⟩⟩
theorem k_X3_draw_85 : aKS mX3_draw mX3_hasTurn 85 3 := ⟨cb_X3_hasTurn, rfl, ml_X3_85, st_X3_hasTurn, ⟨Nat.le_of_ble_eq_true rfl, Nat.le_of_ble_eq_true rfl⟩⟩
theorem k_X3_draw_89 : aKV mX3_draw mX0_name 89 1 0 := ⟨cb_X0_name, rfl, ml_X3_89, iv_X0_name, sl_X0_name, ⟨_, _, rfl⟩, ⟨Nat.le_of_ble_eq_true rfl, Nat.le_of_ble_eq_true rfl⟩⟩
theorem k_X3_draw_92 : aKV mX3_draw mX3_claim 92 2 3 := ⟨cb_X3_claim, rfl, ml_X3_92, iv_X3_claim, sl_X3_claim, ⟨_, _, rfl⟩, ⟨Nat.le_of_ble_eq_true rfl, Nat.le_of_ble_eq_true rfl⟩⟩
/-! ===== SlotTable: building ===== -/
/-- the draft, where each server goes on, how many slots are free -/
abbrev dT : Type := (Nat → Int32) × (Nat → Int32) × Nat
/-- server s with name n takes its first free preference -/
def dFi (M n s : Nat) (σ : dT) : Option Nat := aFo (fun i => decide (σ.1 (pPf M n i) = -1)) (M - (σ.2.1 s).toNatClampNeg) (σ.2.1 s).toNatClampNeg
def dCl (M n s : Nat) (σ : dT) : dT := match dFi M n s σ with
  | some i => (upd σ.1 (pPf M n i) (nI s), upd σ.2.1 s (nI (i + 1)), σ.2.2 - 1)
  | none => σ
/-- the turn of server s in round r -/
def dTu (M : Nat) (A W : Nat → Nat) (on : Nat → Bool) (G r s : Nat) (σ : dT) : dT := if on s && pTn r (W s) G then dCl M (A s) s σ else σ
def dIn (M : Nat) (A W : Nat → Nat) (on : Nat → Bool) (G r : Nat) : Nat → Nat → dT → dT
  | 0, _, σ => σ
  | k + 1, s, σ => if 0 < σ.2.2 then dIn M A W on G r k (s + 1) (dTu M A W on G r s σ) else σ
def dOu (M : Nat) (A W : Nat → Nat) (on : Nat → Bool) (G : Nat) : Nat → Nat → dT → dT
  | 0, _, σ => σ
  | k + 1, r, σ => if 0 < σ.2.2 then dOu M A W on G k (r + 1) (dIn M A W on G r 10 0 σ) else σ
def dOn (nm up : Nat → Int32) (lo : Int32) (s : Nat) : Bool := decide (¬ nI s = lo) && fUp nm up (nI s)
def dDr (M : Nat) (A W : Nat → Nat) (nm up : Nat → Int32) (lo : Int32) (G : Nat) (dr tr : Nat → Int32) : dT := dOu M A W (dOn nm up lo) G M 1 (fFl 61 (fun _ => -1) dr, fFl 10 (fun _ => 0) tr, if 0 < G then M else 0)
def dOk (M : Nat) (σ : dT) : Prop := σ.2.2 ≤ M ∧ ∀ j, j < 10 → ∃ t, t ≤ M ∧ σ.2.1 j = nI t
theorem dCl_ok {M n s : Nat} {σ : dT} (hs : s < 10) (hM : M ≤ 61) (h : dOk M σ) : dOk M (dCl M n s σ) := by
  unfold dCl
  cases hf : dFi M n s σ with
  | none => exact h
  | some i =>
    obtain ⟨t, ht, he⟩ := h.2 s hs
    unfold dFi at hf
    rw [he, nI_clamp (by omega)] at hf
    obtain ⟨h1, h2, -⟩ := aFo_some hf
    refine ⟨Nat.le_trans (Nat.sub_le _ _) h.1, fun j hj => ?_⟩
    show ∃ t, t ≤ M ∧ upd σ.2.1 s (nI (i + 1)) j = nI t
    unfold upd
    split
    · exact ⟨i + 1, by omega, rfl⟩
    · exact h.2 j hj
theorem dTu_ok {M : Nat} {A W : Nat → Nat} {on : Nat → Bool} {G r s : Nat} {σ : dT} (hs : s < 10) (hM : M ≤ 61) (h : dOk M σ) : dOk M (dTu M A W on G r s σ) := by
  unfold dTu
  split
  · exact dCl_ok hs hM h
  · exact h
theorem dIn_ok {M : Nat} {A W : Nat → Nat} {on : Nat → Bool} {G r : Nat} (hM : M ≤ 61) : ∀ (k s : Nat) {σ : dT}, s + k = 10 → dOk M σ → dOk M (dIn M A W on G r k s σ)
  | 0, _, _, _, h => h
  | k + 1, s, σ, hs, h => by
    unfold dIn
    split
    · exact dIn_ok hM k (s + 1) (by omega) (dTu_ok (by omega) hM h)
    · exact h
section DRW
variable {l : Launch} {X : aX} {M : Nat} {ow dr tr : Nat → Int32} {ch fo : Int32}
theorem c_X3_claim (h2 : 2 ≤ M) (hM : M ≤ 61) (s n : Nat) (hs : s < 10) (hn : n ≤ 9999) (f : Nat) (hok : dOk M (dr, tr, f)) : aWr l X mX3_claim rs4 [.ref 0, .int (nI s), .int (nI n)] (aSl M ow dr tr ch fo) (some (.int (bI (dFi M n s (dr, tr, f)).isSome))) (aSl M ow (dCl M n s (dr, tr, f)).1 (dCl M n s (dr, tr, f)).2.1 ch fo) := by
  refine aMt.of (by decide) rfl (Nat.le_of_ble_eq_true rfl) ?_
  have hv : vp_in (nI s) 10 := in10 hs
  obtain ⟨t, ht, he⟩ := hok.2 s hs
  dsimp only at he
  have hfi : dFi M n s (dr, tr, f) = aFo (fun i => decide (dr (pPf M n i) = -1)) (M - t) t := by
    unfold dFi; dsimp only; rw [he, nI_clamp (by omega)]
  refine a_aload_n dX3_claim_0 rfl ?_
  refine a_get fl_X3_18 dX3_claim_1 rfl rfl ?_
  refine a_iload_n dX3_claim_4 rfl ?_
  refine a_iald dX3_claim_5 rfl (by assumption) ?_
  refine a_istore_n dX3_claim_6 (by decide) rfl ?_
  rw [cl10 hs, he]
  generalize hr : (bI (dFi M n s (dr, tr, f)).isSome) = r
  generalize hh : aSl M ow (dCl M n s (dr, tr, f)).1 (dCl M n s (dr, tr, f)).2.1 ch fo = h9
  have lp : ∀ (k i : Nat), i + k = M → dFi M n s (dr, tr, f) = aFo (fun i => decide (dr (pPf M n i) = -1)) k i → aJ l X mX3_claim (aEd X mX3_claim rs4 (fun o h' => o = .inl (some (.int r)) ∧ h' = h9)) 0 0 7 [.ref 0, .int (nI s), .int (nI n), .int (nI i), .null] [] (aSl M ow dr tr ch fo) := by
    intro k
    induction k with
    | zero =>
      intro i hi hq
      obtain rfl : i = M := by omega
      refine a_iload_n dX3_claim_7 rfl ?_
      refine a_aload_n dX3_claim_8 rfl ?_
      refine a_get fl_X3_31 dX3_claim_9 rfl rfl ?_
      refine a_icmp_ge 68 dX3_claim_12 (by decide) (fun _ => ?_) (fun z => absurd (nI_le (Nat.le_refl i) (by omega)) z)
      refine a_iconst 0 dX3_claim_68 (by decide) ?_
      refine a_zret rfl rfl dX3_claim_69 (by decide) (by decide) ?_
      refine ⟨?_, ?_⟩
      · rw [← hr, hq]; rfl
      · rw [← hh]; unfold dCl; rw [hq]; rfl
    | succ k ih =>
      intro i hi hq
      have hp : pPf M n i < M := pPf_lt (by omega)
      have hv4 : vp_in (nI (pPf M n i)) 61 := in61 (by omega)
      refine a_iload_n dX3_claim_7 rfl ?_
      refine a_aload_n dX3_claim_8 rfl ?_
      refine a_get fl_X3_31 dX3_claim_9 rfl rfl ?_
      refine a_icmp_ge 68 dX3_claim_12 (by decide) (fun z => absurd z (nI_ge (by omega) (by omega))) (fun _ => ?_)
      refine a_aload_n dX3_claim_15 rfl ?_
      refine a_iload_n dX3_claim_16 rfl ?_
      refine a_iload_n dX3_claim_17 rfl ?_
      refine a_ViR [0, 1, 2, 3] k_X3_claim_96 (c_X3_preferredSlot (ow := ow) (dr := dr) (tr := tr) (ch := ch) (fo := fo) h2 hM n i hn (by omega)) dX3_claim_18 rfl rfl rfl rfl rfl rfl (Nat.le_of_ble_eq_true rfl) ⟨Nat.le_of_ble_eq_true rfl, Nat.le_of_ble_eq_true rfl⟩ ⟨rfl, rfl⟩ ?_
      refine a_istore dX3_claim_21 (by decide) rfl ?_
      refine a_aload_n dX3_claim_23 rfl ?_
      refine a_iload dX3_claim_24 rfl ?_
      refine a_ViR [0, 1, 2, 3] k_X3_claim_47 (c_X3_isSlot (M := M) (ow := ow) (dr := dr) (tr := tr) (ch := ch) (fo := fo) (nI (pPf M n i))) dX3_claim_26 rfl rfl rfl rfl rfl rfl (Nat.le_of_ble_eq_true rfl) ⟨Nat.le_of_ble_eq_true rfl, Nat.le_of_ble_eq_true rfl⟩ ⟨rfl, rfl⟩ ?_
      refine a_if_eq 62 dX3_claim_29 (by decide) (fun c29 => ?_) (fun c29 => ?_)
      · exact absurd (bI_0 c29) (by rw [sSl_j hp hM]; decide)
      · refine a_aload_n dX3_claim_32 rfl ?_
        refine a_get fl_X3_15 dX3_claim_33 rfl rfl ?_
        refine a_iload dX3_claim_36 rfl ?_
        refine a_iald dX3_claim_38 rfl (by assumption) ?_
        refine a_iconst (-1) dX3_claim_39 (by decide) ?_
        refine a_icmp_ne 62 dX3_claim_40 (by decide) (fun c40 => ?_) (fun c40 => ?_)
        · rw [cl61 (by omega)] at c40
          refine a_iinc (nI (i + 1)) dX3_claim_62 rfl (nI_1 _) (by decide) rfl ?_
          refine a_goto 7 dX3_claim_65 (by decide) ?_
          refine a_drop 4 ?_
          exact ih (i + 1) (by omega) (by rw [hq]; simp [aFo, c40])
        · rw [cl61 (by omega)] at c40
          refine a_aload_n dX3_claim_43 rfl ?_
          refine a_get fl_X3_15 dX3_claim_44 rfl rfl ?_
          refine a_iload dX3_claim_47 rfl ?_
          refine a_iload_n dX3_claim_49 rfl ?_
          refine a_iast dX3_claim_50 rfl (by assumption) ?_
          refine a_aload_n dX3_claim_51 rfl ?_
          refine a_get fl_X3_18 dX3_claim_52 rfl rfl ?_
          refine a_iload_n dX3_claim_55 rfl ?_
          refine a_iload_n dX3_claim_56 rfl ?_
          refine a_iconst 1 dX3_claim_57 (by decide) ?_
          refine a_iadd dX3_claim_58 ?_
          refine a_iast dX3_claim_59 rfl (by assumption) ?_
          refine a_iconst 1 dX3_claim_60 (by decide) ?_
          refine a_zret rfl rfl dX3_claim_61 (by decide) (by decide) ?_
          have e : aFo (fun i => decide (dr (pPf M n i) = -1)) (k + 1) i = some i := by simp [aFo, c40]
          refine ⟨?_, ?_⟩
          · rw [← hr, hq, e]; rfl
          · rw [← hh, cl61 (by omega), cl10 hs, nI_1]
            unfold dCl; rw [hq, e]
            rfl
  exact lp (M - t) t (by omega) hfi
variable {A W : Nat → Nat} {up : Nat → Int32} {ld : Nat → Int64}
theorem c_X3_draw (h2 : 2 ≤ M) (hM : M ≤ 61) (lo : Int32) (G : Nat) (hG : fGw (fun j => nI (A j)) (fun j => nI (W j)) up lo = nI G) (hG16 : G ≤ 16) (hA : ∀ j, j < 10 → A j ≤ 9999) (hW : ∀ j, j < 10 → W j ≤ 16) :
    aWr l X mX3_draw rs9 [.ref 0, .ref 4, .int lo] (aSF M ow dr tr ch fo (fun j => nI (A j)) (fun j => nI (W j)) up ld) none (aSF M ow (dDr M A W (fun j => nI (A j)) up lo G dr tr).1 (dDr M A W (fun j => nI (A j)) up lo G dr tr).2.1 ch fo (fun j => nI (A j)) (fun j => nI (W j)) up ld) := by
  refine aMt.of (by decide) rfl (Nat.le_of_ble_eq_true rfl) ?_
  generalize hr : dDr M A W (fun j => nI (A j)) up lo G dr tr = r
  have hgw := c_X0_greatestWeightWithout (l := l) (X := X) (nm := fun j => nI (A j)) (wt := fun j => nI (W j)) (up := up) (ld := ld) lo
  rw [hG] at hgw
  refine a_aload_n dX3_draw_0 rfl ?_
  refine a_get fl_X3_15 dX3_draw_1 rfl rfl ?_
  refine a_iconst (-1) dX3_draw_4 (by decide) ?_
  refine a_SvW [2] (aSF M ow (fFl 61 (fun _ => -1) dr) tr ch fo (fun j => nI (A j)) (fun j => nI (W j)) up ld) k_X3_draw_35 (c_J7_fill 61 (by decide) dr (-1)) dX3_draw_5 rfl rfl rfl rfl rfl (Nat.le_of_ble_eq_true rfl) ⟨Nat.le_of_ble_eq_true rfl, Nat.le_of_ble_eq_true rfl⟩ ⟨rfl, rfl⟩ (Nat.le_of_ble_eq_true rfl) rfl ?_
  refine a_aload_n dX3_draw_8 rfl ?_
  refine a_get fl_X3_18 dX3_draw_9 rfl rfl ?_
  refine a_iconst 0 dX3_draw_12 (by decide) ?_
  refine a_SvW [3] (aSF M ow (fFl 61 (fun _ => -1) dr) (fFl 10 (fun _ => 0) tr) ch fo (fun j => nI (A j)) (fun j => nI (W j)) up ld) k_X3_draw_35 (c_J7_fill 10 (by decide) tr 0) dX3_draw_13 rfl rfl rfl rfl rfl (Nat.le_of_ble_eq_true rfl) ⟨Nat.le_of_ble_eq_true rfl, Nat.le_of_ble_eq_true rfl⟩ ⟨rfl, rfl⟩ (Nat.le_of_ble_eq_true rfl) rfl ?_
  refine a_aload_n dX3_draw_16 rfl ?_
  refine a_iload_n dX3_draw_17 rfl ?_
  refine a_ViR [4, 5, 6, 7, 8] k_X3_draw_78 (hgw) dX3_draw_18 rfl rfl rfl rfl rfl rfl (Nat.le_of_ble_eq_true rfl) ⟨Nat.le_of_ble_eq_true rfl, Nat.le_of_ble_eq_true rfl⟩ ⟨rfl, rfl⟩ ?_
  refine a_istore_n dX3_draw_21 (by decide) rfl ?_
  have inner : ∀ (rd : Nat), 1 ≤ rd → rd ≤ M → ∀ (hx : ∀ σ : dT, dOk M σ → dOu M A W (dOn (fun j => nI (A j)) up lo) G (M - rd) (rd + 1) σ = r → aJ l X mX3_draw (aEd X mX3_draw rs9 (fun o h' => o = .inl none ∧ h' = aSF M ow r.1 r.2.1 ch fo (fun j => nI (A j)) (fun j => nI (W j)) up ld)) 0 0 122 [.ref 0, .ref 4, .int lo, .int (nI G), .int (nI σ.2.2), .int (nI rd), .null] [] (aSF M ow σ.1 σ.2.1 ch fo (fun j => nI (A j)) (fun j => nI (W j)) up ld)),
      ∀ (k s : Nat) (σ : dT), s + k = 10 → dOk M σ → dOu M A W (dOn (fun j => nI (A j)) up lo) G (M - rd) (rd + 1) (dIn M A W (dOn (fun j => nI (A j)) up lo) G rd k s σ) = r → aJ l X mX3_draw (aEd X mX3_draw rs9 (fun o h' => o = .inl none ∧ h' = aSF M ow r.1 r.2.1 ch fo (fun j => nI (A j)) (fun j => nI (W j)) up ld)) 0 0 56 [.ref 0, .ref 4, .int lo, .int (nI G), .int (nI σ.2.2), .int (nI rd), .int (nI s)] [] (aSF M ow σ.1 σ.2.1 ch fo (fun j => nI (A j)) (fun j => nI (W j)) up ld) := by
    intro rd hrd1 hrdM hx k
    induction k with
    | zero =>
      intro s σ hs hok hq
      obtain rfl : s = 10 := by omega
      refine a_iload dX3_draw_56 rfl ?_
      refine a_bipush 10 dX3_draw_58 (by decide) ?_
      refine a_icmp_ge 122 dX3_draw_60 (by decide) (fun _ => ?_) (fun z => absurd ge10_t z)
      refine a_drop 6 ?_
      exact hx σ hok hq
    | succ k ih =>
      intro s σ hs hok hq
      have hf1 := hok.1
      refine a_iload dX3_draw_56 rfl ?_
      refine a_bipush 10 dX3_draw_58 (by decide) ?_
      refine a_icmp_ge 122 dX3_draw_60 (by decide) (fun z => absurd z (ge10_f (by omega))) (fun _ => ?_)
      rcases Nat.eq_zero_or_pos σ.2.2 with hf | hf
      · rw [hf]
        refine a_iload dX3_draw_63 rfl ?_
        refine a_if_le 122 dX3_draw_65 (by decide) (fun _ => ?_) (fun z => absurd (by decide) z)
        refine a_drop 6 ?_
        have := hx σ hok (by rw [← hq]; simp [dIn, hf])
        rw [hf] at this
        exact this
      · refine a_iload dX3_draw_63 rfl ?_
        refine a_if_le 122 dX3_draw_65 (by decide) (fun z => absurd z (nI_nle hf (by omega))) (fun _ => ?_)
        have hcont : ∀ σ' : dT, dOk M σ' → dTu M A W (dOn (fun j => nI (A j)) up lo) G rd s σ = σ' → aJ l X mX3_draw (aEd X mX3_draw rs9 (fun o h' => o = .inl none ∧ h' = aSF M ow r.1 r.2.1 ch fo (fun j => nI (A j)) (fun j => nI (W j)) up ld)) 0 0 116 [.ref 0, .ref 4, .int lo, .int (nI G), .int (nI σ'.2.2), .int (nI rd), .int (nI s)] [] (aSF M ow σ'.1 σ'.2.1 ch fo (fun j => nI (A j)) (fun j => nI (W j)) up ld) := by
          intro σ' hok' he
          refine a_iinc (nI (s + 1)) dX3_draw_116 rfl (nI_1 _) (by decide) rfl ?_
          refine a_goto 56 dX3_draw_119 (by decide) ?_
          exact ih (s + 1) σ' (by omega) hok' (by rw [← hq, ← he]; simp [dIn, hf])
        refine a_iload dX3_draw_68 rfl ?_
        refine a_iload_n dX3_draw_70 rfl ?_
        refine a_icmp_eq 116 dX3_draw_71 (by decide) (fun c71 => ?_) (fun c71 => ?_)
        · exact hcont σ hok (by simp [dTu, dOn, c71])
        · refine a_aload_n dX3_draw_74 rfl ?_
          refine a_iload dX3_draw_75 rfl ?_
          refine a_ViR [4, 5, 6, 7, 8] k_X3_draw_73 (c_X0_isUp (nm := fun j => nI (A j)) (wt := fun j => nI (W j)) (up := up) (ld := ld) (nI s)) dX3_draw_77 rfl rfl rfl rfl rfl rfl (Nat.le_of_ble_eq_true rfl) ⟨Nat.le_of_ble_eq_true rfl, Nat.le_of_ble_eq_true rfl⟩ ⟨rfl, rfl⟩ ?_
          refine a_if_eq 116 dX3_draw_80 (by decide) (fun c80 => ?_) (fun c80 => ?_)
          · exact hcont σ hok (by simp [dTu, dOn, bI_0 c80])
          · have hup := bI_1 c80
            have hhs : fHs (fun j => nI (A j)) (nI s) = true := by
              simp only [fUp, Bool.and_eq_true] at hup; exact hup.1
            have hwt := c_X0_weight (l := l) (X := X) (nm := fun j => nI (A j)) (wt := fun j => nI (W j)) (up := up) (ld := ld) (nI s)
            have hnm := c_X0_name (l := l) (X := X) (nm := fun j => nI (A j)) (wt := fun j => nI (W j)) (up := up) (ld := ld) (nI s)
            rw [if_pos hhs, cl10 (by omega)] at hwt hnm
            refine a_iload dX3_draw_83 rfl ?_
            refine a_aload_n dX3_draw_85 rfl ?_
            refine a_iload dX3_draw_86 rfl ?_
            refine a_ViR [4, 5, 6, 7, 8] k_X3_draw_82 (hwt) dX3_draw_88 rfl rfl rfl rfl rfl rfl (Nat.le_of_ble_eq_true rfl) ⟨Nat.le_of_ble_eq_true rfl, Nat.le_of_ble_eq_true rfl⟩ ⟨rfl, rfl⟩ ?_
            refine a_iload_n dX3_draw_91 rfl ?_
            refine a_SiR [] k_X3_draw_85 (c_X3_hasTurn rd (W s) G hrd1 (by omega) (hW s (by omega)) hG16) dX3_draw_92 rfl rfl rfl rfl rfl (Nat.le_of_ble_eq_true rfl) ⟨Nat.le_of_ble_eq_true rfl, Nat.le_of_ble_eq_true rfl⟩ ⟨rfl, rfl⟩ ?_
            refine a_if_eq 116 dX3_draw_95 (by decide) (fun c95 => ?_) (fun c95 => ?_)
            · exact hcont σ hok (by simp [dTu, bI_0 c95])
            · have hon : (dOn (fun j => nI (A j)) up lo s && pTn rd (W s) G) = true := by simp [dOn, c71, hup, bI_1 c95]
              have htu : dTu M A W (dOn (fun j => nI (A j)) up lo) G rd s σ = dCl M (A s) s σ := by simp [dTu, hon]
              have hok2 : dOk M (dCl M (A s) s σ) := dCl_ok (by omega) hM hok
              refine a_aload_n dX3_draw_98 rfl ?_
              refine a_iload dX3_draw_99 rfl ?_
              refine a_aload_n dX3_draw_101 rfl ?_
              refine a_iload dX3_draw_102 rfl ?_
              refine a_ViR [4, 5, 6, 7, 8] k_X3_draw_89 (hnm) dX3_draw_104 rfl rfl rfl rfl rfl rfl (Nat.le_of_ble_eq_true rfl) ⟨Nat.le_of_ble_eq_true rfl, Nat.le_of_ble_eq_true rfl⟩ ⟨rfl, rfl⟩ ?_
              refine a_ViW [0, 1, 2, 3] (aSF M ow (dCl M (A s) s σ).1 (dCl M (A s) s σ).2.1 ch fo (fun j => nI (A j)) (fun j => nI (W j)) up ld) k_X3_draw_92 (c_X3_claim (ow := ow) (dr := σ.1) (tr := σ.2.1) (ch := ch) (fo := fo) h2 hM s (A s) (by omega) (hA s (by omega)) σ.2.2 hok) dX3_draw_107 rfl rfl rfl rfl rfl rfl (Nat.le_of_ble_eq_true rfl) ⟨Nat.le_of_ble_eq_true rfl, Nat.le_of_ble_eq_true rfl⟩ ⟨rfl, rfl⟩ (Nat.le_of_ble_eq_true rfl) rfl ?_
              refine a_if_eq 116 dX3_draw_110 (by decide) (fun c110 => ?_) (fun c110 => ?_)
              · have hno : dFi M (A s) s σ = none := by
                  have := bI_0 c110
                  cases hz : dFi M (A s) s σ with
                  | none => rfl
                  | some i => rw [hz] at this; cases this
                have hsame : dCl M (A s) s σ = σ := by unfold dCl; rw [hno]
                rw [hsame] at htu ⊢
                exact hcont σ hok htu
              · obtain ⟨i, hsm⟩ : ∃ i, dFi M (A s) s σ = some i := by
                  have := bI_1 c110
                  cases hz : dFi M (A s) s σ with
                  | some i => exact ⟨i, rfl⟩
                  | none => rw [hz] at this; cases this
                obtain ⟨z, hz⟩ : ∃ z, σ.2.2 = z + 1 := ⟨σ.2.2 - 1, by omega⟩
                have hzf : (dCl M (A s) s σ).2.2 = z := by unfold dCl; rw [hsm]; show σ.2.2 - 1 = z; omega
                rw [hz]
                refine a_iinc (nI z) dX3_draw_113 rfl (pk_m1 _) (by decide) rfl ?_
                have := hcont (dCl M (A s) s σ) hok2 htu
                rw [hzf] at this
                exact this
  have outer : ∀ (k rd : Nat) (σ : dT), rd + k = M + 1 → 1 ≤ rd → dOk M σ → dOu M A W (dOn (fun j => nI (A j)) up lo) G k rd σ = r → aJ l X mX3_draw (aEd X mX3_draw rs9 (fun o h' => o = .inl none ∧ h' = aSF M ow r.1 r.2.1 ch fo (fun j => nI (A j)) (fun j => nI (W j)) up ld)) 0 0 39 [.ref 0, .ref 4, .int lo, .int (nI G), .int (nI σ.2.2), .int (nI rd), .null] [] (aSF M ow σ.1 σ.2.1 ch fo (fun j => nI (A j)) (fun j => nI (W j)) up ld) := by
    intro k
    induction k with
    | zero =>
      intro rd σ hrd h1 hok hq
      refine a_iload dX3_draw_39 rfl ?_
      refine a_aload_n dX3_draw_41 rfl ?_
      refine a_get fl_X3_31 dX3_draw_42 rfl rfl ?_
      refine a_icmp_gt 128 dX3_draw_45 (by decide) (fun _ => ?_) (fun z => absurd (nI_lt (by omega) (by omega)) z)
      refine a_vret rfl dX3_draw_128 (by decide) (by decide) ?_
      exact ⟨rfl, by rw [← hq]; rfl⟩
    | succ k ih =>
      intro rd σ hrd h1 hok hq
      have hf1 := hok.1
      refine a_iload dX3_draw_39 rfl ?_
      refine a_aload_n dX3_draw_41 rfl ?_
      refine a_get fl_X3_31 dX3_draw_42 rfl rfl ?_
      refine a_icmp_gt 128 dX3_draw_45 (by decide) (fun z => absurd z (nI_nlt (by omega) (by omega))) (fun _ => ?_)
      rcases Nat.eq_zero_or_pos σ.2.2 with hf | hf
      · rw [hf]
        refine a_iload dX3_draw_48 rfl ?_
        refine a_if_le 128 dX3_draw_50 (by decide) (fun _ => ?_) (fun z => absurd (by decide) z)
        refine a_vret rfl dX3_draw_128 (by decide) (by decide) ?_
        exact ⟨rfl, by rw [← hq]; simp [dOu, hf]⟩
      · refine a_iload dX3_draw_48 rfl ?_
        refine a_if_le 128 dX3_draw_50 (by decide) (fun z => absurd z (nI_nle hf (by omega))) (fun _ => ?_)
        refine a_iconst 0 dX3_draw_53 (by decide) ?_
        refine a_istore dX3_draw_54 (by decide) rfl ?_
        have hk : k = M - rd := by omega
        refine inner rd h1 (by omega) (fun σ' hok' he => ?_) 10 0 σ rfl hok (by rw [← hq, ← hk]; simp [dOu, hf])
        refine a_iinc (nI (rd + 1)) dX3_draw_122 rfl (nI_1 _) (by decide) rfl ?_
        refine a_goto 39 dX3_draw_125 (by decide) ?_
        exact ih (rd + 1) σ' (by omega) (by omega) hok' (by rw [hk]; exact he)
  have hok0 : ∀ f, f ≤ M → dOk M (fFl 61 (fun _ => -1) dr, fFl 10 (fun _ => 0) tr, f) := fun f hf => ⟨hf, fun j hj => ⟨0, by omega, by simp [fFl, hj]; rfl⟩⟩
  rcases Nat.eq_zero_or_pos G with hg | hg
  · rw [hg]
    refine a_iload_n dX3_draw_22 rfl ?_
    refine a_if_le 33 dX3_draw_23 (by decide) (fun _ => ?_) (fun z => absurd (by decide) z)
    refine a_iconst 0 dX3_draw_33 (by decide) ?_
    refine a_istore dX3_draw_34 (by decide) rfl ?_
    refine a_iconst 1 dX3_draw_36 (by decide) ?_
    refine a_istore dX3_draw_37 (by decide) rfl ?_
    have := outer M 1 (fFl 61 (fun _ => -1) dr, fFl 10 (fun _ => 0) tr, 0) (by omega) (Nat.le_refl _) (hok0 0 (by omega)) (by rw [← hr]; simp [dDr, hg])
    rw [hg] at this
    exact this
  · refine a_iload_n dX3_draw_22 rfl ?_
    refine a_if_le 33 dX3_draw_23 (by decide) (fun z => absurd z (nI_nle hg (by omega))) (fun _ => ?_)
    refine a_aload_n dX3_draw_26 rfl ?_
    refine a_get fl_X3_31 dX3_draw_27 rfl rfl ?_
    refine a_goto 34 dX3_draw_30 (by decide) ?_
    refine a_istore dX3_draw_34 (by decide) rfl ?_
    refine a_iconst 1 dX3_draw_36 (by decide) ?_
    refine a_istore dX3_draw_37 (by decide) rfl ?_
    exact outer M 1 (fFl 61 (fun _ => -1) dr, fFl 10 (fun _ => 0) tr, M) (by omega) (Nat.le_refl _) (hok0 M (Nat.le_refl _)) (by rw [← hr]; simp [dDr, hg])
end DRW
