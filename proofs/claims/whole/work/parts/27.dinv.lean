/-! written by wip/whole/pp.py out of wip/whole/src/27.dinv.lean -/

/-! ===== the drawing: what holds throughout ===== -/
/-- how many places below n P takes -/
def cN (P : Nat → Bool) : Nat → Nat
  | 0 => 0
  | n + 1 => cN P n + (if P n then 1 else 0)
theorem cN_congr {P P' : Nat → Bool} : ∀ {n : Nat}, (∀ j, j < n → P j = P' j) → cN P n = cN P' n
  | 0, _ => rfl
  | n + 1, h => by
    show cN P n + _ = cN P' n + _
    rw [cN_congr (fun j hj => h j (by omega)), h n (by omega)]
theorem cN_pos {P : Nat → Bool} : ∀ {n : Nat}, 0 < cN P n → ∃ j, j < n ∧ P j = true
  | 0, h => absurd h (Nat.lt_irrefl 0)
  | n + 1, h => by
    by_cases hp : P n = true
    · exact ⟨n, by omega, hp⟩
    · have h2 : 0 < cN P n + (if P n then 1 else 0) := h
      rw [if_neg hp] at h2
      obtain ⟨j, h1, h3⟩ := cN_pos (n := n) h2
      exact ⟨j, by omega, h3⟩
theorem cN_le (P : Nat → Bool) : ∀ (n : Nat), cN P n ≤ n
  | 0 => Nat.le_refl _
  | n + 1 => by
    have := cN_le P n
    show cN P n + _ ≤ _
    split <;> omega
theorem cN_all {P : Nat → Bool} : ∀ {n : Nat}, (∀ j, j < n → P j = true) → cN P n = n
  | 0, _ => rfl
  | n + 1, h => by
    show cN P n + _ = _
    rw [cN_all (fun j hj => h j (by omega)), if_pos (h n (by omega))]
theorem cN_lt {P : Nat → Bool} : ∀ {n : Nat}, (∃ j, j < n ∧ P j = false) → cN P n < n
  | 0, ⟨j, h, _⟩ => absurd h (Nat.not_lt_zero j)
  | n + 1, ⟨j, h, hp⟩ => by
    show cN P n + _ < _
    rcases Nat.lt_or_ge j n with q | q
    · have := cN_lt (P := P) (n := n) ⟨j, q, hp⟩
      split <;> omega
    · obtain rfl : j = n := by omega
      have := cN_le P j
      rw [hp]
      show cN P j + 0 < j + 1
      omega
theorem cN_sub {P P' : Nat → Bool} {i : Nat} : ∀ {n : Nat}, i < n → P i = true → P' i = false → (∀ j, j < n → j ≠ i → P j = P' j) → cN P n = cN P' n + 1
  | 0, h, _, _, _ => absurd h (Nat.not_lt_zero i)
  | n + 1, h, h1, h2, h3 => by
    show cN P n + _ = cN P' n + _ + 1
    rcases Nat.lt_or_ge i n with q | q
    · rw [cN_sub q h1 h2 (fun j hj hn => h3 j (by omega) hn), h3 n (by omega) (by omega)]
      omega
    · obtain rfl : i = n := by omega
      rw [h1, h2, cN_congr (P := P) (P' := P') (fun j hj => h3 j (by omega) (by omega))]
      rfl
theorem aFo_skip {P : Nat → Bool} : ∀ (t k j : Nat), (∀ i, j ≤ i → i < j + t → P i = false) → aFo P (t + k) j = aFo P k (j + t)
  | 0, k, j, _ => by rw [Nat.zero_add]; rfl
  | t + 1, k, j, h => by
    rw [show t + 1 + k = (t + k) + 1 by omega]
    show (if P j then some j else aFo P (t + k) (j + 1)) = _
    rw [h j (Nat.le_refl _) (by omega)]
    show aFo P (t + k) (j + 1) = _
    rw [aFo_skip t k (j + 1) (fun i h1 h2 => h i (by omega) (by omega))]
    rw [show j + 1 + t = j + (t + 1) by omega]
theorem aFo_ex {P : Nat → Bool} {k j : Nat} (h : ∃ i, j ≤ i ∧ i < j + k ∧ P i = true) : ∃ i, aFo P k j = some i := by
  cases hf : aFo P k j with
  | some i => exact ⟨i, rfl⟩
  | none =>
    obtain ⟨i, h1, h2, h3⟩ := h
    rw [aFo_none hf i h1 h2] at h3
    cases h3
theorem aFo_min {P : Nat → Bool} : ∀ {k j i : Nat}, aFo P k j = some i → ∀ r, j ≤ r → r < i → P r = false
  | 0, j, i, h => by cases h
  | k + 1, j, i, h => by
    intro r h1 h2
    unfold aFo at h
    by_cases hp : P j = true
    · rw [if_pos hp] at h; cases h; omega
    · rw [if_neg hp] at h
      rcases Nat.lt_or_ge j r with q | q
      · exact aFo_min h r (by omega) h2
      · obtain rfl : r = j := by omega
        simpa using hp
theorem aFo_congr {P P' : Nat → Bool} : ∀ (k j : Nat), (∀ i, j ≤ i → i < j + k → P i = P' i) → aFo P k j = aFo P' k j
  | 0, _, _ => rfl
  | k + 1, j, h => by
    show (if P j then some j else aFo P k (j + 1)) = (if P' j then some j else aFo P' k (j + 1))
    rw [h j (Nat.le_refl _) (by omega), aFo_congr k (j + 1) (fun i h1 h2 => h i (by omega) (by omega))]
/-- the numbers of slots that there may be -/
def slP : List Nat := [5, 7, 11, 13, 17, 19, 23, 29, 31, 37, 41, 43, 47, 53, 59, 61]
theorem slP_b {M : Nat} (h : M ∈ slP) : 5 ≤ M ∧ M ≤ 61 := by
  have : ∀ M ∈ slP, 5 ≤ M ∧ M ≤ 61 := by decide
  exact this M h
theorem slP_all : (slP.all fun M => (List.range M).all fun s => s == 0 || (List.range M).any fun e => (s * e) % M == 1) = true := by decide +kernel
theorem slP_inv {M s : Nat} (h : M ∈ slP) (hs : s < M) (h0 : 0 < s) : ∃ e, (s * e) % M = 1 := by
  have h1 := List.all_eq_true.mp slP_all M h
  have h2 := List.all_eq_true.mp h1 s (List.mem_range.mpr hs)
  rw [Bool.or_eq_true] at h2
  rcases h2 with h2 | h2
  · have := beq_iff_eq.mp h2; omega
  · obtain ⟨e, -, he⟩ := List.any_eq_true.mp h2
    exact ⟨e, beq_iff_eq.mp he⟩
theorem pPf_sur {M n j : Nat} (h : M ∈ slP) (hj : j < M) : ∃ i, i < M ∧ pPf M n i = j := by
  have hb := slP_b h
  have hs1 : (17 * n + 3) % (M - 1) + 1 < M := by have := Nat.mod_lt (17 * n + 3) (show 0 < M - 1 by omega); omega
  obtain ⟨e, he⟩ := slP_inv h hs1 (by omega)
  have ho : (31 * n + 7) % M < M := Nat.mod_lt _ (by omega)
  unfold pPf
  generalize (17 * n + 3) % (M - 1) + 1 = s at *
  generalize (31 * n + 7) % M = o at *
  refine ⟨((j + M - o) * e) % M, Nat.mod_lt _ (by omega), ?_⟩
  have e1 : ((j + M - o) * e) % M * s % M = (j + M - o) % M := by
    rw [Nat.mod_mul_mod, Nat.mul_assoc, Nat.mul_comm e s, ← Nat.mul_mod_mod, he, Nat.mul_one]
  rw [← Nat.add_mod_mod, e1, Nat.add_mod_mod, show o + (j + M - o) = j + M by omega, Nat.add_mod_right, Nat.mod_eq_of_lt hj]
/-- free slots are counted; what was tried is taken; slots hold servers that are on -/
def dIv (M : Nat) (A : Nat → Nat) (on : Nat → Bool) (σ : dT) : Prop := σ.2.2 = cN (fun j => decide (σ.1 j = -1)) M ∧ (∀ s, s < 10 → ∃ t, t ≤ M ∧ σ.2.1 s = nI t ∧ ∀ i, i < t → ¬ σ.1 (pPf M (A s) i) = -1) ∧ ∀ j, j < M → σ.1 j = -1 ∨ ∃ s, s < 10 ∧ on s = true ∧ σ.1 j = nI s
theorem dCl_iv {M : Nat} {A : Nat → Nat} {on : Nat → Bool} {s : Nat} {σ : dT} (hM : M ∈ slP) (hs : s < 10) (hon : on s = true) (h : dIv M A on σ) (hf : 0 < σ.2.2) :
    ∃ i, i < M ∧ dFi M (A s) s σ = some i ∧ aFo (fun i => decide (σ.1 (pPf M (A s) i) = -1)) M 0 = some i ∧ dCl M (A s) s σ = (upd σ.1 (pPf M (A s) i) (nI s), upd σ.2.1 s (nI (i + 1)), σ.2.2 - 1) ∧ dIv M A on (dCl M (A s) s σ) := by
  obtain ⟨h1, h2, h3⟩ := h
  have hb := slP_b hM
  obtain ⟨t, ht, het, htk⟩ := h2 s hs
  rw [h1] at hf
  obtain ⟨j, hj, hfr⟩ := cN_pos hf
  obtain ⟨r, hr, hpr⟩ := pPf_sur (n := A s) hM hj
  have hfr' : σ.1 (pPf M (A s) r) = -1 := by rw [hpr]; exact of_decide_eq_true hfr
  have htr : t ≤ r := by
    rcases Nat.lt_or_ge r t with q | q
    · exact absurd hfr' (htk r q)
    · exact q
  have e0 : dFi M (A s) s σ = aFo (fun i => decide (σ.1 (pPf M (A s) i) = -1)) (M - t) t := by
    unfold dFi; rw [het, nI_clamp (by omega)]
  obtain ⟨i, hi⟩ := aFo_ex (P := fun i => decide (σ.1 (pPf M (A s) i) = -1)) (k := M - t) (j := t) ⟨r, htr, by omega, decide_eq_true hfr'⟩
  obtain ⟨hi1, hi2, hi3⟩ := aFo_some hi
  have hi3' : σ.1 (pPf M (A s) i) = -1 := of_decide_eq_true hi3
  have hp : pPf M (A s) i < M := pPf_lt (by omega)
  have hne : ¬ nI s = -1 := nI_m1 (by omega)
  have e2 : dCl M (A s) s σ = (upd σ.1 (pPf M (A s) i) (nI s), upd σ.2.1 s (nI (i + 1)), σ.2.2 - 1) := by
    unfold dCl; rw [e0, hi]
  refine ⟨i, by omega, by rw [e0, hi], ?_, e2, ?_⟩
  · have := aFo_skip (P := fun i => decide (σ.1 (pPf M (A s) i) = -1)) t (M - t) 0 (fun i _ h2 => decide_eq_false (htk i (by omega)))
    rw [show t + (M - t) = M by omega, Nat.zero_add] at this
    rw [this, hi]
  · rw [e2]
    refine ⟨?_, fun s' hs' => ?_, fun j' hj' => ?_⟩
    · have := cN_sub (P := fun j => decide (σ.1 j = -1)) (P' := fun j => decide (upd σ.1 (pPf M (A s) i) (nI s) j = -1)) hp hi3 (by simp [upd, hne]) (fun j _ hn => by simp [upd, hn])
      show σ.2.2 - 1 = cN (fun j => decide (upd σ.1 (pPf M (A s) i) (nI s) j = -1)) M
      omega
    · show ∃ t, t ≤ M ∧ upd σ.2.1 s (nI (i + 1)) s' = nI t ∧ ∀ i', i' < t → ¬ upd σ.1 (pPf M (A s) i) (nI s) (pPf M (A s') i') = -1
      by_cases hss : s' = s
      · subst hss
        refine ⟨i + 1, by omega, by simp [upd], fun i' hi' => ?_⟩
        unfold upd
        split
        · exact hne
        · rename_i hq
          rcases Nat.lt_or_ge i' t with q | q
          · exact htk i' q
          · rcases Nat.lt_or_ge i' i with q2 | q2
            · exact of_decide_eq_false (aFo_min hi i' q q2)
            · obtain rfl : i' = i := by omega
              exact absurd rfl hq
      · obtain ⟨t', g1, g2, g3⟩ := h2 s' hs'
        refine ⟨t', g1, by simp [upd, hss, g2], fun i' hi' => ?_⟩
        unfold upd
        split
        · exact hne
        · exact g3 i' hi'
    · show upd σ.1 (pPf M (A s) i) (nI s) j' = -1 ∨ ∃ s', s' < 10 ∧ on s' = true ∧ upd σ.1 (pPf M (A s) i) (nI s) j' = nI s'
      unfold upd
      split
      · exact Or.inr ⟨s, hs, hon, rfl⟩
      · exact h3 j' hj'
theorem dTu_iv {M : Nat} {A W : Nat → Nat} {on : Nat → Bool} {G r s : Nat} {σ : dT} (hM : M ∈ slP) (hs : s < 10) (h : dIv M A on σ) (hf : 0 < σ.2.2) : dIv M A on (dTu M A W on G r s σ) ∧ (dTu M A W on G r s σ).2.2 ≤ σ.2.2 ∧ ((on s && pTn r (W s) G) = true → (dTu M A W on G r s σ).2.2 < σ.2.2) := by
  unfold dTu
  by_cases hc : (on s && pTn r (W s) G) = true
  · rw [if_pos hc]
    have ho : on s = true := by rw [Bool.and_eq_true] at hc; exact hc.1
    obtain ⟨i, -, -, -, e, hi⟩ := dCl_iv hM hs ho h hf
    refine ⟨hi, ?_, fun _ => ?_⟩
    · rw [e]; exact Nat.sub_le _ _
    · rw [e]; show σ.2.2 - 1 < σ.2.2; omega
  · rw [if_neg hc]
    exact ⟨h, Nat.le_refl _, fun z => absurd z hc⟩
theorem dIn_iv {M : Nat} {A W : Nat → Nat} {on : Nat → Bool} {G r : Nat} (hM : M ∈ slP) : ∀ (k s : Nat) {σ : dT}, s + k = 10 → dIv M A on σ → dIv M A on (dIn M A W on G r k s σ) ∧ (dIn M A W on G r k s σ).2.2 ≤ σ.2.2
  | 0, _, _, _, h => ⟨h, Nat.le_refl _⟩
  | k + 1, s, σ, hs, h => by
    unfold dIn
    by_cases hf : 0 < σ.2.2
    · rw [if_pos hf]
      have h1 := dTu_iv (W := W) (G := G) (r := r) hM (show s < 10 by omega) h hf
      have h2 := dIn_iv hM k (s + 1) (by omega) h1.1 (W := W) (G := G) (r := r)
      exact ⟨h2.1, Nat.le_trans h2.2 h1.2.1⟩
    · rw [if_neg hf]
      exact ⟨h, Nat.le_refl _⟩
theorem dIn_dec {M : Nat} {A W : Nat → Nat} {on : Nat → Bool} {G r g : Nat} (hM : M ∈ slP) (hg : (on g && pTn r (W g) G) = true) : ∀ (k s : Nat) {σ : dT}, s + k = 10 → s ≤ g → g < 10 → dIv M A on σ → 0 < σ.2.2 → (dIn M A W on G r k s σ).2.2 < σ.2.2
  | 0, s, _, hs, h1, h2, _, _ => by omega
  | k + 1, s, σ, hs, h1, h2, h, hf => by
    unfold dIn
    rw [if_pos hf]
    have ht := dTu_iv (W := W) (G := G) (r := r) hM (show s < 10 by omega) h hf
    rcases Nat.lt_or_ge s g with q | q
    · rcases Nat.eq_zero_or_pos (dTu M A W on G r s σ).2.2 with hz | hz
      · have := (dIn_iv (W := W) (G := G) (r := r) hM k (s + 1) (by omega) ht.1).2
        omega
      · have := dIn_dec hM hg k (s + 1) (by omega) (by omega) h2 ht.1 hz
        omega
    · obtain rfl : s = g := by omega
      have := (dIn_iv (W := W) (G := G) (r := r) hM k (s + 1) (by omega) ht.1).2
      have := ht.2.2 hg
      omega
theorem pTn_self {r G : Nat} (hr : 1 ≤ r) (hG : 0 < G) : pTn r G G = true := by
  unfold pTn
  rw [Nat.mul_div_cancel _ hG, Nat.mul_div_cancel _ hG]
  simp [hG]
  omega
theorem dOu_iv {M : Nat} {A W : Nat → Nat} {on : Nat → Bool} {G g : Nat} (hM : M ∈ slP) (hg : g < 10) (hon : on g = true) (hW : W g = G) (hG : 0 < G) : ∀ (k r : Nat) {σ : dT}, 1 ≤ r → dIv M A on σ → σ.2.2 ≤ k → dIv M A on (dOu M A W on G k r σ) ∧ (dOu M A W on G k r σ).2.2 = 0
  | 0, _, σ, _, h, hk => ⟨h, Nat.le_zero.mp hk⟩
  | k + 1, r, σ, hr, h, hk => by
    unfold dOu
    by_cases hf : 0 < σ.2.2
    · rw [if_pos hf]
      have h1 := dIn_iv (W := W) (G := G) (r := r) hM 10 0 rfl h
      have h2 := dIn_dec (G := G) (r := r) (W := W) hM (by rw [hon, hW, pTn_self hr hG]; rfl) 10 0 rfl (Nat.zero_le g) hg h hf
      exact dOu_iv hM hg hon hW hG k (r + 1) (by omega) h1.1 (by omega)
    · rw [if_neg hf]
      exact ⟨h, by omega⟩
/-- the greatest weight of those that are on -/
def mxW (on : Nat → Bool) (W : Nat → Nat) : Nat := aLp (fun j c => if on j then (if c < W j then W j else c) else c) 10 0 0
theorem mxW_ex {on : Nat → Bool} {W : Nat → Nat} : ∀ (k j a : Nat), aLp (fun j c => if on j then (if c < W j then W j else c) else c) k j a = a ∨ ∃ g, j ≤ g ∧ g < j + k ∧ on g = true ∧ W g = aLp (fun j c => if on j then (if c < W j then W j else c) else c) k j a
  | 0, _, _ => Or.inl rfl
  | k + 1, j, a => by
    show aLp (fun j c => if on j then (if c < W j then W j else c) else c) k (j + 1) (if on j then (if a < W j then W j else a) else a) = a ∨ ∃ g, j ≤ g ∧ g < j + (k + 1) ∧ on g = true ∧ W g = aLp (fun j c => if on j then (if c < W j then W j else c) else c) k (j + 1) (if on j then (if a < W j then W j else a) else a)
    rcases mxW_ex k (j + 1) (if on j then (if a < W j then W j else a) else a) with h | ⟨g, h1, h2, h3, h4⟩
    · rw [h]
      by_cases ho : on j = true
      · rw [if_pos ho]
        by_cases hw : a < W j
        · rw [if_pos hw]; exact Or.inr ⟨j, Nat.le_refl _, by omega, ho, rfl⟩
        · rw [if_neg hw]; exact Or.inl rfl
      · rw [if_neg ho]; exact Or.inl rfl
    · exact Or.inr ⟨g, by omega, by omega, h3, h4⟩
theorem mxW_g {on : Nat → Bool} {W : Nat → Nat} (h : 0 < mxW on W) : ∃ g, g < 10 ∧ on g = true ∧ W g = mxW on W := by
  rcases mxW_ex (on := on) (W := W) 10 0 0 with h0 | ⟨g, h1, h2, h3, h4⟩
  · unfold mxW at h; omega
  · exact ⟨g, by omega, h3, h4⟩
theorem mxW_le {on : Nat → Bool} {W : Nat → Nat} (hW : ∀ j, j < 10 → W j ≤ 16) : mxW on W ≤ 16 := by
  rcases mxW_ex (on := on) (W := W) 10 0 0 with h0 | ⟨g, h1, h2, h3, h4⟩
  · unfold mxW; omega
  · have := hW g (by omega); unfold mxW; omega
/-- the first round's state -/
theorem d0_iv {M : Nat} {A : Nat → Nat} {on : Nat → Bool} {T : Nat → Int32} {z : Nat → Int32} (hz : ∀ s, s < 10 → z s = 0) (hT : ∀ j, j < M → T j = -1) : dIv M A on (T, z, M) :=
  ⟨(cN_all (fun j hj => decide_eq_true (hT j hj))).symm, fun s hs => ⟨0, Nat.zero_le _, hz s hs, fun i hi => absurd hi (Nat.not_lt_zero i)⟩, fun j hj => Or.inl (hT j hj)⟩
/-- alike on the slots and the servers -/
def dAg (M : Nat) (σ τ : dT) : Prop := (∀ j, j < M → σ.1 j = τ.1 j) ∧ (∀ s, s < 10 → σ.2.1 s = τ.2.1 s) ∧ σ.2.2 = τ.2.2
theorem dTu_ag {M : Nat} {A W A' W' : Nat → Nat} {on on' : Nat → Bool} {G r s : Nat} {σ τ : dT} (hM : 0 < M) (hs : s < 10) (ho : on s = on' s) (hA : on s = true → A s = A' s) (hW : on s = true → W s = W' s) (h : dAg M σ τ) : dAg M (dTu M A W on G r s σ) (dTu M A' W' on' G r s τ) := by
  unfold dTu
  by_cases hon : on s = true
  · rw [← ho, ← hW hon, ← hA hon]
    split
    · have e : dFi M (A s) s σ = dFi M (A s) s τ := by
        unfold dFi
        rw [h.2.1 s hs]
        exact aFo_congr _ _ (fun i _ _ => by rw [h.1 _ (pPf_lt hM)])
      unfold dCl
      rw [e]
      cases dFi M (A s) s τ with
      | none => exact h
      | some i =>
        refine ⟨fun j hj => ?_, fun s' hs' => ?_, ?_⟩
        · show upd σ.1 _ _ j = upd τ.1 _ _ j
          unfold upd; split
          · rfl
          · exact h.1 j hj
        · show upd σ.2.1 _ _ s' = upd τ.2.1 _ _ s'
          unfold upd; split
          · rfl
          · exact h.2.1 s' hs'
        · show σ.2.2 - 1 = τ.2.2 - 1
          rw [h.2.2]
    · exact h
  · have hf : on s = false := by simpa using hon
    have hf' : on' s = false := by rw [← ho]; exact hf
    rw [hf, hf']
    exact h
theorem dIn_ag {M : Nat} {A W A' W' : Nat → Nat} {on on' : Nat → Bool} {G r : Nat} (hM : 0 < M) (ho : ∀ s, s < 10 → on s = on' s) (hA : ∀ s, s < 10 → on s = true → A s = A' s) (hW : ∀ s, s < 10 → on s = true → W s = W' s) : ∀ (k s : Nat) {σ τ : dT}, s + k = 10 → dAg M σ τ → dAg M (dIn M A W on G r k s σ) (dIn M A' W' on' G r k s τ)
  | 0, _, _, _, _, h => h
  | k + 1, s, σ, τ, hs, h => by
    unfold dIn
    rw [h.2.2]
    split
    · exact dIn_ag hM ho hA hW k (s + 1) (by omega) (dTu_ag hM (by omega) (ho s (by omega)) (hA s (by omega)) (hW s (by omega)) h)
    · exact h
theorem dOu_ag {M : Nat} {A W A' W' : Nat → Nat} {on on' : Nat → Bool} {G : Nat} (hM : 0 < M) (ho : ∀ s, s < 10 → on s = on' s) (hA : ∀ s, s < 10 → on s = true → A s = A' s) (hW : ∀ s, s < 10 → on s = true → W s = W' s) : ∀ (k r : Nat) {σ τ : dT}, dAg M σ τ → dAg M (dOu M A W on G k r σ) (dOu M A' W' on' G k r τ)
  | 0, _, _, _, h => h
  | k + 1, r, σ, τ, h => by
    unfold dOu
    rw [h.2.2]
    split
    · exact dOu_ag hM ho hA hW k (r + 1) (dIn_ag hM ho hA hW 10 0 rfl h)
    · exact h
/-- the table that is built over T -/
def mBd (M : Nat) (A W : Nat → Nat) (on : Nat → Bool) (T : Nat → Int32) : Nat → Int32 := (dOu M A W on (mxW on W) M 1 (fFl M (fun _ => -1) T, fun _ => 0, if 0 < mxW on W then M else 0)).1
theorem mBd_ok {M : Nat} {A W : Nat → Nat} {on : Nat → Bool} {T : Nat → Int32} (hM : M ∈ slP) : ∀ j, j < M → mBd M A W on T j = -1 ∨ ∃ s, s < 10 ∧ on s = true ∧ mBd M A W on T j = nI s := by
  intro j hj
  unfold mBd
  rcases Nat.eq_zero_or_pos (mxW on W) with hz | hz
  · rw [hz, if_neg (Nat.lt_irrefl 0)]
    left
    have : ∀ (k r : Nat) (σ : dT), σ.2.2 = 0 → dOu M A W on 0 k r σ = σ := by
      intro k r σ h0
      cases k with
      | zero => rfl
      | succ k => unfold dOu; rw [h0]; rfl
    rw [this _ _ _ rfl]
    show fFl M (fun _ => -1) T j = -1
    simp [fFl, hj]
  · rw [if_pos hz]
    obtain ⟨g, h1, h2, h3⟩ := mxW_g hz
    have := dOu_iv (A := A) (G := mxW on W) hM h1 h2 h3 hz M 1 (σ := (fFl M (fun _ => -1) T, fun _ => 0, M)) (Nat.le_refl _) (d0_iv (fun _ _ => rfl) (fun j hj => by simp [fFl, hj])) (Nat.le_refl _)
    exact this.1.2.2 j hj
