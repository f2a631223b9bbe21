/-! written by wip/whole/pp.py out of wip/whole/src/42.cnt.lean -/

/-! ===== the tracker counts: the class and the reference ===== -/
theorem i64_add {a b : Int64} (h1 : -(2 ^ 63) ≤ a.toInt + b.toInt) (h2 : a.toInt + b.toInt < 2 ^ 63) : (a + b).toInt = a.toInt + b.toInt := by
  rw [Int64.toInt_add]
  have e : ((2 ^ 64 : Nat) : Int) = 18446744073709551616 := rfl
  simp only [Int.bmod]
  rw [e]
  split <;> omega
/-- what the reference's walk finds -/
theorem trF_ok {km : kT} {key : Int32} : ∀ (n j : Nat) (σ : Int32 × Nat), ((σ.1 = -1 ∧ ∀ a, a < j → km.1.1 a ≠ key) ∨ ∃ a, a < j ∧ σ.1 = nI a ∧ km.1.1 a = key) → (0 < j → σ.2 < j ∧ ∀ a, a < j → ¬ lss (tE km.1 a) (tE km.1 σ.2)) → (j = 0 → σ.2 = 0) →
    (((aLp (trS km key) n j σ).1 = -1 ∧ ∀ a, a < j + n → km.1.1 a ≠ key) ∨ ∃ a, a < j + n ∧ (aLp (trS km key) n j σ).1 = nI a ∧ km.1.1 a = key) ∧ (0 < j + n → (aLp (trS km key) n j σ).2 < j + n ∧ ∀ a, a < j + n → ¬ lss (tE km.1 a) (tE km.1 (aLp (trS km key) n j σ).2))
  | 0, j, σ, h1, h2, _ => ⟨h1, h2⟩
  | n + 1, j, σ, h1, h2, h3 => by
    rw [show j + (n + 1) = j + 1 + n by omega]
    show (((aLp (trS km key) n (j + 1) (trS km key j σ)).1 = -1 ∧ _) ∨ _) ∧ _
    refine trF_ok n (j + 1) (trS km key j σ) ?_ (fun _ => ?_) (by omega)
    · unfold trS
      dsimp only
      by_cases hk : km.1.1 j = key
      · rw [if_pos hk]
        exact Or.inr ⟨j, by omega, rfl, hk⟩
      · rw [if_neg hk]
        rcases h1 with ⟨z1, z2⟩ | ⟨a, z1, z2, z3⟩
        · refine Or.inl ⟨z1, fun a ha => ?_⟩
          rcases Nat.lt_or_ge a j with q | q
          · exact z2 a q
          · obtain rfl : a = j := by omega
            exact hk
        · exact Or.inr ⟨a, by omega, z2, z3⟩
    · have hc : (decide (km.1.2.1 j < km.1.2.1 σ.2) || (decide (km.1.2.1 j = km.1.2.1 σ.2) && decide (¬ km.1.1 σ.2 ≤ km.1.1 j))) = true ↔ lss (tE km.1 j) (tE km.1 σ.2) := by
        simp only [Bool.or_eq_true, Bool.and_eq_true, decide_eq_true_eq, lss, Int64.lt_iff_toInt_lt, Int32.le_iff_toInt_le, ← Int64.toInt_inj]
        omega
      unfold trS
      dsimp only
      by_cases hl : lss (tE km.1 j) (tE km.1 σ.2)
      · rw [if_pos (hc.mpr hl)]
        refine ⟨by omega, fun a ha z => ?_⟩
        rcases Nat.lt_or_ge a j with q | q
        · refine (h2 (by omega)).2 a q ?_
          unfold lss at *; omega
        · obtain rfl : a = j := by omega
          unfold lss at z; omega
      · rw [if_neg (fun z => hl (hc.mp z))]
        rcases Nat.eq_zero_or_pos j with q | q
        · subst q
          have := h3 rfl
          refine ⟨by omega, fun a ha => ?_⟩
          obtain rfl : a = 0 := by omega
          rw [this]
          intro z; unfold lss at z; omega
        · refine ⟨by have := (h2 q).1; omega, fun a ha => ?_⟩
          rcases Nat.lt_or_ge a j with q2 | q2
          · exact (h2 q).2 a q2
          · obtain rfl : a = j := by omega
            exact hl
theorem tLs_ok (tc : Nat → Int64) : ∀ j, (∀ a, tLs tc j ≤ a → a ≤ j → tc a = tc j) ∧ (0 < tLs tc j → tc (tLs tc j - 1) ≠ tc (tLs tc j))
  | 0 => ⟨fun a h1 h2 => by rw [show a = 0 by omega], fun h => absurd h (Nat.lt_irrefl 0)⟩
  | j + 1 => by
    unfold tLs
    by_cases hc : tc j = tc (j + 1)
    · rw [if_pos hc]
      obtain ⟨h1, h2⟩ := tLs_ok tc j
      refine ⟨fun a ha hb => ?_, h2⟩
      rcases Nat.lt_or_ge a (j + 1) with q | q
      · rw [h1 a ha (by omega), hc]
      · rw [show a = j + 1 by omega]
    · rw [if_neg hc]
      refine ⟨fun a ha hb => by rw [show a = j + 1 by omega], fun _ => ?_⟩
      rw [Nat.add_sub_cancel]
      exact hc
section CNT
variable {B : Int} {k km : kT}
theorem rK.cle (h : rK B k km) {a b : Nat} (hab : a ≤ b) (hb : b < k.2) : (k.1.2.1 b).toInt ≤ (k.1.2.1 a).toInt := by
  rcases Nat.lt_or_ge a b with q | q
  · have h1 := h.2.1 a b q hb
    have h2 : (k.1.2.1 b).toInt < (k.1.2.1 a).toInt ∨ ((k.1.2.1 a).toInt = (k.1.2.1 b).toInt ∧ (k.1.1 a).toInt < (k.1.1 b).toInt) := h1
    omega
  · rw [show a = b by omega]; exact Int.le_refl _
/-- the class's least entry -/
theorem rK.least (h : rK B k km) (h0 : 0 < k.2) : ∀ a, a < k.2 → ¬ lss (tE k.1 a) (tE k.1 (tLs k.1.2.1 (k.2 - 1))) := by
  intro a ha z
  have hle := tLs_le k.1.2.1 (k.2 - 1)
  obtain ⟨g1, g2⟩ := tLs_ok k.1.2.1 (k.2 - 1)
  have z2 : (k.1.2.1 a).toInt < (k.1.2.1 (tLs k.1.2.1 (k.2 - 1))).toInt ∨ ((k.1.2.1 a).toInt = (k.1.2.1 (tLs k.1.2.1 (k.2 - 1))).toInt ∧ (k.1.1 a).toInt < (k.1.1 (tLs k.1.2.1 (k.2 - 1))).toInt) := z
  rcases Nat.lt_or_ge a (tLs k.1.2.1 (k.2 - 1)) with q | q
  · have c1 := h.cle (show a ≤ tLs k.1.2.1 (k.2 - 1) - 1 by omega) (by omega)
    have c2 := h.cle (show tLs k.1.2.1 (k.2 - 1) - 1 ≤ tLs k.1.2.1 (k.2 - 1) by omega) (by omega)
    have c3 : (k.1.2.1 (tLs k.1.2.1 (k.2 - 1) - 1)).toInt ≠ (k.1.2.1 (tLs k.1.2.1 (k.2 - 1))).toInt := fun w => g2 (by omega) (Int64.toInt_inj.mp w)
    omega
  · rcases Nat.lt_or_ge (tLs k.1.2.1 (k.2 - 1)) a with q2 | q2
    · have e1 := g1 a q (by omega)
      have e2 := g1 (tLs k.1.2.1 (k.2 - 1)) (Nat.le_refl _) hle
      have h1 := h.2.1 (tLs k.1.2.1 (k.2 - 1)) a q2 ha
      have h2 : (k.1.2.1 a).toInt < (k.1.2.1 (tLs k.1.2.1 (k.2 - 1))).toInt ∨ ((k.1.2.1 (tLs k.1.2.1 (k.2 - 1))).toInt = (k.1.2.1 a).toInt ∧ (k.1.1 (tLs k.1.2.1 (k.2 - 1))).toInt < (k.1.1 a).toInt) := h1
      rw [e1, e2] at z2 h2
      omega
    · have : a = tLs k.1.2.1 (k.2 - 1) := by omega
      rw [this] at z2
      omega
theorem rK.count (h : rK B k km) (hB0 : 0 ≤ B) (hB : B + 1000000 < 2 ^ 63) (key n : Int32) (hn1 : 1 ≤ n.toInt) (hn2 : n.toInt ≤ 1000000) : rK (B + 1000000) (tCt key n k.1 k.2) (mTk key n km) := by
  have hm8 := h.2.2.2.1
  have hlen := h.len
  have hadd : ∀ a, a < k.2 → (k.1.2.1 a + n.toInt64).toInt = (k.1.2.1 a).toInt + n.toInt := by
    intro a ha
    have := h.2.2.2.2 a ha
    rw [i64_add (by rw [Int32.toInt_toInt64]; omega) (by rw [Int32.toInt_toInt64]; omega), Int32.toInt_toInt64]
  obtain ⟨f1, f2⟩ := trF_ok (km := km) (key := key) km.2 0 (-1, 0) (Or.inl ⟨rfl, fun a ha => absurd ha (Nat.not_lt_zero a)⟩) (fun z => absurd z (Nat.lt_irrefl 0)) (fun _ => rfl)
  rw [Nat.zero_add] at f1 f2
  have ftr : aLp (trS km key) km.2 0 (-1, 0) = trF km key := rfl
  rw [ftr] at f1 f2
  cases hf : aFo (fun j => decide (k.1.1 j = key)) k.2 0 with
  | some i =>
    obtain ⟨-, i2, i3⟩ := aFo_some hf
    have hi : i < k.2 := by omega
    have hki : k.1.1 i = key := of_decide_eq_true i3
    obtain ⟨j, hj, hje⟩ := h.to hi
    have hkj : km.1.1 j = key := by rw [← hki]; exact congrArg Prod.fst hje
    have htr : (trF km key).1 = nI j := by
      rcases f1 with ⟨z1, z2⟩ | ⟨a, z1, z2, z3⟩
      · exact absurd hkj (z2 j hj)
      · rw [z2]
        by_cases q : a = j
        · rw [q]
        · exact absurd (z3.trans hkj.symm) (h.keys' z1 hj q)
    have e1 : tCt key n k.1 k.2 = (tMv i (k.1.1, vp_updL k.1.2.1 i (k.1.2.1 i + n.toInt64), k.1.2.2), k.2) := by unfold tCt; rw [hf]; rfl
    have hcl : (nI j).toNatClampNeg = j := cl8 (by omega)
    have e2 : mTk key n km = ((km.1.1, vp_updL km.1.2.1 j (km.1.2.1 j + n.toInt64), km.1.2.2), km.2) := by
      unfold mTk
      rw [htr, if_neg (nI_m1 (by omega)), hcl]
    rw [e1, e2]
    have hcj : km.1.2.1 j = k.1.2.1 i := congrArg (fun x => x.2.1) hje
    have hej : km.1.2.2 j = k.1.2.2 i := congrArg (fun x => x.2.2) hje
    refine h.put (y := (key, k.1.2.1 i + n.toInt64, k.1.2.2 i)) (n := n.toInt) hi hj hje hn1 hn2 (fun a ha => by simp [tE, vp_updL, ha]) (by simp [tE, vp_updL, hki]) (fun a ha => by simp [tE, vp_updL, ha]) (by simp [tE, vp_updL, hkj, hcj, hej]) (hadd i hi) (fun a ha hai => ?_) (fun b hb1 hb2 => h.cle (by omega) hb2)
    show k.1.1 a ≠ key
    rw [← hki]
    exact h.2.2.1 a i ha hi hai
  | none =>
    have hno : ∀ a, a < k.2 → k.1.1 a ≠ key := fun a ha => of_decide_eq_false (aFo_none hf a (Nat.zero_le _) (by omega))
    have hno' : ∀ a, a < km.2 → km.1.1 a ≠ key := by
      intro a ha
      obtain ⟨c, hc, hce⟩ := h.fro ha
      have : k.1.1 c = km.1.1 a := congrArg Prod.fst hce
      rw [← this]
      exact hno c hc
    have htr : (trF km key).1 = -1 := by
      rcases f1 with ⟨z1, z2⟩ | ⟨a, z1, z2, z3⟩
      · exact z1
      · exact absurd z3 (hno' a z1)
    rcases Nat.lt_or_ge k.2 8 with q8 | q8
    · have e1 : tCt key n k.1 k.2 = (tMv k.2 (upd k.1.1 k.2 key, vp_updL (vp_updL k.1.2.1 k.2 0) k.2 (vp_updL k.1.2.1 k.2 0 k.2 + n.toInt64), vp_updL k.1.2.2 k.2 0), k.2 + 1) := by unfold tCt; rw [hf]; simp only [q8, if_true]; rfl
      have e2 : mTk key n km = ((upd km.1.1 km.2 key, vp_updL km.1.2.1 km.2 n.toInt64, vp_updL km.1.2.2 km.2 0), km.2 + 1) := by
        unfold mTk
        rw [if_pos htr, if_pos (by omega)]
      rw [e1, e2]
      have hz : (0 : Int64) + n.toInt64 = n.toInt64 := by simp
      refine h.app (y := (key, n.toInt64, 0)) (n := n.toInt) q8 hB0 hn1 hn2 (fun a ha => by simp [tE, vp_updL, upd, ha]) (by simp [tE, vp_updL, upd]) (fun a ha => by simp [tE, vp_updL, upd, ha]) (by simp [tE, vp_updL, upd]) (Int32.toInt_toInt64 n) (fun a ha => hno a ha)
    · have h8 : k.2 = 8 := by omega
      have h8' : km.2 = 8 := by omega
      have hle := tLs_le k.1.2.1 (k.2 - 1)
      have hli : tLs k.1.2.1 (k.2 - 1) < k.2 := by omega
      obtain ⟨lj1, lj2⟩ := f2 (by omega)
      have hsame : tE km.1 (trF km key).2 = tE k.1 (tLs k.1.2.1 (k.2 - 1)) := by
        obtain ⟨c, hc, hce⟩ := h.fro lj1
        obtain ⟨w, hw, hwe⟩ := h.to hli
        rw [← hce]
        by_cases q : c = tLs k.1.2.1 (k.2 - 1)
        · rw [q]
        · rcases lss_tot (a := tE k.1 c) (b := tE k.1 (tLs k.1.2.1 (k.2 - 1))) (h.2.2.1 c _ hc hli q) with z | z
          · exact absurd z (h.least (by omega) c hc)
          · rw [hce, ← hwe] at z
            exact absurd z (lj2 w hw)
      have e1 : tCt key n k.1 k.2 = (tMv (tLs k.1.2.1 (k.2 - 1)) (upd k.1.1 (tLs k.1.2.1 (k.2 - 1)) key, vp_updL k.1.2.1 (tLs k.1.2.1 (k.2 - 1)) (k.1.2.1 (tLs k.1.2.1 (k.2 - 1)) + n.toInt64), vp_updL k.1.2.2 (tLs k.1.2.1 (k.2 - 1)) (k.1.2.1 (tLs k.1.2.1 (k.2 - 1)))), k.2) := by
        unfold tCt; rw [hf]; simp only [show ¬ k.2 < 8 by omega, if_false]; rfl
      have e2 : mTk key n km = ((upd km.1.1 (trF km key).2 key, vp_updL km.1.2.1 (trF km key).2 (km.1.2.1 (trF km key).2 + n.toInt64), vp_updL km.1.2.2 (trF km key).2 (km.1.2.1 (trF km key).2)), km.2) := by
        unfold mTk
        rw [if_pos htr, if_neg (by omega)]
      rw [e1, e2]
      have hcj : km.1.2.1 (trF km key).2 = k.1.2.1 (tLs k.1.2.1 (k.2 - 1)) := congrArg (fun x => x.2.1) hsame
      refine h.put (y := (key, k.1.2.1 (tLs k.1.2.1 (k.2 - 1)) + n.toInt64, k.1.2.1 (tLs k.1.2.1 (k.2 - 1)))) (n := n.toInt) hli lj1 hsame hn1 hn2 (fun a ha => by simp [tE, vp_updL, upd, ha]) (by simp [tE, vp_updL, upd]) (fun a ha => by simp [tE, vp_updL, upd, ha]) (by simp [tE, vp_updL, upd, hcj]) (hadd _ hli) (fun a ha _ => hno a ha) (fun b hb1 hb2 => h.cle (by omega) hb2)
end CNT
