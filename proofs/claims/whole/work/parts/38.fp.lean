/-! written by wip/whole/pp.py out of wip/whole/src/38.fp.lean -/

/-! ===== doubles: shares and quotients are numbers ===== -/
theorem vf_n64_iff (a : UInt64) : vf_n64 a ↔ FP.Core.dIsNaN a = false := by
  have h1 : (a &&& 0x7fffffffffffffff).toNat = a.toNat % 2 ^ 63 := by
    rw [UInt64.toNat_and]
    exact Nat.and_two_pow_sub_one_eq_mod a.toNat 63
  have h2 := FP.Core.isNaN_bits a
  unfold vf_n64
  rw [UInt64.le_iff_toNat_le, h1]
  show a.toNat % 2 ^ 63 ≤ 9218868437227405312 ↔ _
  cases hb : FP.Core.dIsNaN a with
  | true => rw [hb] at h2; have := h2.mp rfl; simp; omega
  | false => rw [hb] at h2; simp at h2 ⊢; omega
theorem dcmp_same {a : UInt64} (h : vf_n64 a) : Op.cmpValue (FP.dcmp a a) .l = 0 := by
  have : FP.dcmp a a = some .eq := FP.Core.dcmp_refl ((vf_n64_iff a).mp h)
  rw [this]; rfl
def shOk (r : UInt64) : Bool := decide (Op.cmpValue (FP.dcmp r FP.dconst0) .l = 1) && (decide (0 < r.toNat) && decide (r.toNat < 0x7ff0000000000000))
def shAll (M : Nat) : Bool := (List.range 16).all fun w => (List.range 160).all fun b => shOk (FP.ddiv (FP.i2d (nI (M * (w + 1)))) (FP.i2d (nI (b + 1))))
theorem sh_5 : shAll 5 = true := by decide +kernel
theorem sh_7 : shAll 7 = true := by decide +kernel
theorem sh_11 : shAll 11 = true := by decide +kernel
theorem sh_13 : shAll 13 = true := by decide +kernel
theorem sh_17 : shAll 17 = true := by decide +kernel
theorem sh_19 : shAll 19 = true := by decide +kernel
theorem sh_23 : shAll 23 = true := by decide +kernel
theorem sh_29 : shAll 29 = true := by decide +kernel
theorem sh_31 : shAll 31 = true := by decide +kernel
theorem sh_37 : shAll 37 = true := by decide +kernel
theorem sh_41 : shAll 41 = true := by decide +kernel
theorem sh_43 : shAll 43 = true := by decide +kernel
theorem sh_47 : shAll 47 = true := by decide +kernel
theorem sh_53 : shAll 53 = true := by decide +kernel
theorem sh_59 : shAll 59 = true := by decide +kernel
theorem sh_61 : shAll 61 = true := by decide +kernel
theorem sh_slP : ∀ M ∈ slP, shAll M = true := List.forall_mem_cons.mpr ⟨sh_5, List.forall_mem_cons.mpr ⟨sh_7, List.forall_mem_cons.mpr ⟨sh_11, List.forall_mem_cons.mpr ⟨sh_13, List.forall_mem_cons.mpr ⟨sh_17, List.forall_mem_cons.mpr ⟨sh_19, List.forall_mem_cons.mpr ⟨sh_23, List.forall_mem_cons.mpr ⟨sh_29, List.forall_mem_cons.mpr ⟨sh_31, List.forall_mem_cons.mpr ⟨sh_37, List.forall_mem_cons.mpr ⟨sh_41, List.forall_mem_cons.mpr ⟨sh_43, List.forall_mem_cons.mpr ⟨sh_47, List.forall_mem_cons.mpr ⟨sh_53, List.forall_mem_cons.mpr ⟨sh_59, List.forall_mem_cons.mpr ⟨sh_61, fun _ h => absurd h List.not_mem_nil⟩⟩⟩⟩⟩⟩⟩⟩⟩⟩⟩⟩⟩⟩⟩⟩
theorem sh_ok {M w b : Nat} (hM : M ∈ slP) (h1 : 1 ≤ w) (h2 : w ≤ 16) (h3 : 1 ≤ b) (h4 : b ≤ 160) : shOk (FP.ddiv (FP.i2d (nI (M * w))) (FP.i2d (nI b))) = true := by
  have e := List.all_eq_true.mp (List.all_eq_true.mp (sh_slP M hM) (w - 1) (List.mem_range.mpr (by omega))) (b - 1) (List.mem_range.mpr (by omega))
  rw [show w - 1 + 1 = w by omega, show b - 1 + 1 = b by omega] at e
  exact e
theorem shOk_gt {r : UInt64} (h : shOk r = true) : 0 < Op.cmpValue (FP.dcmp r FP.dconst0) .l := by
  unfold shOk at h
  rw [Bool.and_eq_true, decide_eq_true_eq] at h
  rw [h.1]; decide
theorem shOk_b {r : UInt64} (h : shOk r = true) : 0 < r.toNat ∧ r.toNat < 0x7ff0000000000000 := by
  unfold shOk at h
  rw [Bool.and_eq_true, Bool.and_eq_true, decide_eq_true_eq, decide_eq_true_eq, decide_eq_true_eq] at h
  exact h.2
theorem shOk_n {r : UInt64} (h : shOk r = true) : vf_n64 r := by
  obtain ⟨h1, h2⟩ := shOk_b h
  rw [vf_n64_iff]
  have h3 := FP.Core.isNaN_bits r
  cases hb : FP.Core.dIsNaN r with
  | true => rw [hb] at h3; have := h3.mp rfl; rw [Nat.mod_eq_of_lt (by omega)] at this; omega
  | false => rfl
theorem shOk_q {r : UInt64} (h : shOk r = true) (n : Int32) : vf_n64 (FP.ddiv (FP.i2d n) r) := by
  obtain ⟨h1, h2⟩ := shOk_b h
  rw [vf_n64_iff]
  have e : r.toNat % 2 ^ 63 = r.toNat := Nat.mod_eq_of_lt (by omega)
  refine FP.Core.ddiv_out (FP.Core.DFin.notNaN (FP.Core.i2d_fin n)) ?_ ?_
  · rw [FP.Core.fin_bits, e]; omega
  · rw [FP.Core.zero_bits2, e]; omega
theorem d0_n : vf_n64 FP.dconst0 := by
  rw [vf_n64_iff]; decide +kernel
theorem d0_0 : ¬ 0 < Op.cmpValue (FP.dcmp FP.dconst0 FP.dconst0) .l := by decide +kernel
