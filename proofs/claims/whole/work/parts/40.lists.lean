/-! written by wip/whole/pp.py out of wip/whole/src/40.lists.lean -/

/-! ===== rows of an array as lists; pins ===== -/
def gL {α : Type} (e : Nat → α) : Nat → Nat → List α
  | 0, _ => []
  | k + 1, j => e j :: gL e k (j + 1)
section GL
variable {α : Type} {e e' : Nat → α}
theorem gL_len : ∀ (k j : Nat), (gL e k j).length = k
  | 0, _ => rfl
  | k + 1, j => by show (gL e k (j + 1)).length + 1 = k + 1; rw [gL_len k (j + 1)]
theorem gL_congr : ∀ (k j : Nat), (∀ i, j ≤ i → i < j + k → e i = e' i) → gL e k j = gL e' k j
  | 0, _, _ => rfl
  | k + 1, j, h => by
    show e j :: gL e k (j + 1) = e' j :: gL e' k (j + 1)
    rw [h j (Nat.le_refl _) (by omega), gL_congr k (j + 1) (fun i h1 h2 => h i (by omega) (by omega))]
theorem gL_app : ∀ (a c j : Nat), gL e (a + c) j = gL e a j ++ gL e c (j + a)
  | 0, c, j => by rw [Nat.zero_add]; rfl
  | a + 1, c, j => by
    rw [show a + 1 + c = (a + c) + 1 by omega]
    show e j :: gL e (a + c) (j + 1) = e j :: (gL e a (j + 1) ++ gL e c (j + (a + 1)))
    rw [gL_app a c (j + 1), show j + 1 + a = j + (a + 1) by omega]
theorem gL_mem {x : α} : ∀ (k j : Nat), x ∈ gL e k j ↔ ∃ i, j ≤ i ∧ i < j + k ∧ e i = x
  | 0, j => ⟨fun h => (List.not_mem_nil h).elim, fun ⟨i, h1, h2, _⟩ => by omega⟩
  | k + 1, j => by
    show x ∈ e j :: gL e k (j + 1) ↔ _
    rw [List.mem_cons, gL_mem k (j + 1)]
    constructor
    · rintro (rfl | ⟨i, h1, h2, h3⟩)
      · exact ⟨j, Nat.le_refl _, by omega, rfl⟩
      · exact ⟨i, by omega, by omega, h3⟩
    · rintro ⟨i, h1, h2, h3⟩
      rcases Nat.lt_or_ge j i with q | q
      · exact Or.inr ⟨i, by omega, by omega, h3⟩
      · obtain rfl : i = j := by omega
        exact Or.inl h3.symm
/-- cut at place i -/
theorem gL_at {m i : Nat} (h : i < m) : gL e m 0 = gL e i 0 ++ e i :: gL e (m - i - 1) (i + 1) := by
  have := gL_app (e := e) i (m - i) 0
  rw [show i + (m - i) = m by omega, Nat.zero_add] at this
  rw [this, show m - i = (m - i - 1) + 1 by omega]
  rfl
theorem gL_snoc {m : Nat} : gL e (m + 1) 0 = gL e m 0 ++ [e m] := by
  have := gL_app (e := e) m 1 0
  rw [Nat.zero_add] at this
  exact this
/-- place i put anew -/
theorem gL_put {m i : Nat} (h : i < m) (he : ∀ j, j < m → j ≠ i → e' j = e j) : gL e' m 0 = gL e i 0 ++ e' i :: gL e (m - i - 1) (i + 1) := by
  rw [gL_at h, gL_congr (e := e') (e' := e) i 0 (fun j _ h2 => he j (by omega) (by omega)), gL_congr (e := e') (e' := e) (m - i - 1) (i + 1) (fun j h1 h2 => he j (by omega) (by omega))]
theorem gL_cN {P : Nat → Bool} {p : α → Bool} (hp : ∀ j, p (e j) = P j) : ∀ (m : Nat), cN P m = (gL e m 0).countP p
  | 0 => rfl
  | m + 1 => by
    rw [gL_snoc, List.countP_append, ← gL_cN hp m]
    show cN P m + (if P m then 1 else 0) = cN P m + _
    congr 1
    rw [List.countP_cons, hp]
    cases P m <;> rfl
end GL
theorem aLp_cN {P : Nat → Bool} : ∀ (k j a : Nat), aLp (fun j c => if P j then c + 1 else c) k j (nI a) = nI (a + (cN P (j + k) - cN P j)) ∧ cN P j ≤ cN P (j + k)
  | 0, j, a => by
    constructor
    · show nI a = _
      rw [Nat.add_zero, Nat.sub_self]; rfl
    · exact Nat.le_refl _
  | k + 1, j, a => by
    have hs : cN P (j + 1) = cN P j + (if P j then 1 else 0) := rfl
    show aLp (fun j c => if P j then c + 1 else c) k (j + 1) (if P j then nI a + 1 else nI a) = _ ∧ _
    rw [show j + (k + 1) = j + 1 + k by omega]
    by_cases h : P j = true
    · rw [if_pos h] at hs ⊢
      rw [nI_1]
      obtain ⟨h1, h2⟩ := aLp_cN (P := P) k (j + 1) (a + 1)
      refine ⟨h1.trans ?_, by omega⟩
      congr 1; omega
    · rw [if_neg h] at hs ⊢
      obtain ⟨h1, h2⟩ := aLp_cN (P := P) k (j + 1) a
      refine ⟨h1.trans ?_, by omega⟩
      congr 1; omega
theorem aLp_cN0 {P : Nat → Bool} (m : Nat) : aLp (fun j c => if P j then c + 1 else c) m 0 (0 : Int32) = nI (cN P m) := by
  have := (aLp_cN (P := P) m 0 0).1
  rw [Nat.zero_add, Nat.zero_add] at this
  exact this
/-- the pinned keys with their servers -/
abbrev pE (pk ps : Nat → Int32) : Nat → Int32 × Int32 := fun i => (pk i, ps i)
abbrev pL (p : pT) : List (Int32 × Int32) := gL (pE p.1 p.2.1) p.2.2 0
theorem pL_ap (key sv : Int32) (σ : pT) : pL (pAp key sv σ) = pL σ ++ [(key, sv)] := by
  show gL (pE (upd σ.1 σ.2.2 key) (upd σ.2.1 σ.2.2 sv)) (σ.2.2 + 1) 0 = _
  rw [gL_snoc, gL_congr (e' := pE σ.1 σ.2.1) σ.2.2 0 (fun i _ h => by simp [pE, upd, show i ≠ σ.2.2 by omega])]
  simp [pE, upd]
theorem pL_lp (keep : Int32 → Int32 → Bool) (pk ps : Nat → Int32) : ∀ (k j : Nat) (σ : pT), σ.2.2 ≤ j → (∀ i, j ≤ i → σ.1 i = pk i ∧ σ.2.1 i = ps i) → pL σ = (gL (pE pk ps) j 0).filter (fun e => keep e.1 e.2) → pL (aLp (pSt keep) k j σ) = (gL (pE pk ps) (j + k) 0).filter (fun e => keep e.1 e.2)
  | 0, j, σ, _, _, h => h
  | k + 1, j, σ, h1, h2, h3 => by
    show pL (aLp (pSt keep) k (j + 1) (pSt keep j σ)) = _
    rw [show j + (k + 1) = j + 1 + k by omega]
    have hj := h2 j (Nat.le_refl _)
    refine pL_lp keep pk ps k (j + 1) _ ?_ ?_ ?_
    · unfold pSt; split
      · show σ.2.2 + 1 ≤ j + 1; omega
      · omega
    · intro i hi
      unfold pSt; split
      · show upd σ.1 σ.2.2 _ i = _ ∧ upd σ.2.1 σ.2.2 _ i = _
        unfold upd
        rw [if_neg (by omega), if_neg (by omega)]
        exact h2 i (by omega)
      · exact h2 i (by omega)
    · rw [gL_snoc, List.filter_append, ← h3]
      unfold pSt
      rw [hj.1, hj.2]
      by_cases hk : keep (pk j) (ps j) = true
      · rw [if_pos hk, pL_ap]
        simp [pE, hk]
      · rw [if_neg hk]
        simp [pE, hk]
theorem pL_ke (keep : Int32 → Int32 → Bool) (pk ps : Nat → Int32) (m : Nat) : pL (pKe keep pk ps m) = (pL (pk, ps, m)).filter (fun e => keep e.1 e.2) := by
  have := pL_lp keep pk ps m 0 (pk, ps, 0) (Nat.le_refl _) (fun _ _ => ⟨rfl, rfl⟩) rfl
  rw [Nat.zero_add] at this
  exact this
/-- pins alike: the same pairs, no key twice, servers by their numbers -/
def rP (p p' : pT) : Prop := (pL p).Perm (pL p') ∧ (pL p).Pairwise (fun a b => a.1 ≠ b.1) ∧ (∀ x ∈ pL p, ∃ s, s < 10 ∧ x.2 = nI s) ∧ p.2.2 ≤ 6
theorem rP.len {p p' : pT} (h : rP p p') : p.2.2 = p'.2.2 := by
  have := h.1.length_eq
  rw [gL_len, gL_len] at this
  exact this
theorem pw_mid {R : Int32 × Int32 → Int32 × Int32 → Prop} {l1 l2 : List (Int32 × Int32)} {x : Int32 × Int32} (h : (l1 ++ x :: l2).Pairwise R) : (∀ a ∈ l1, R a x) ∧ (∀ b ∈ l2, R x b) ∧ (l1 ++ l2).Pairwise R := by
  rw [List.pairwise_append] at h
  obtain ⟨h1, h2, h3⟩ := h
  rw [List.pairwise_cons] at h2
  exact ⟨fun a ha => h3 a ha x List.mem_cons_self, h2.1, List.pairwise_append.mpr ⟨h1, h2.2, fun a ha b hb => h3 a ha b (List.mem_cons_of_mem _ hb)⟩⟩
theorem pw_eq {l : List (Int32 × Int32)} (h : l.Pairwise (fun a b => a.1 ≠ b.1)) : ∀ {x y : Int32 × Int32}, x ∈ l → y ∈ l → x.1 = y.1 → x = y := by
  induction l with
  | nil => intro x y hx; cases hx
  | cons a l ih =>
    intro x y hx hy he
    rw [List.pairwise_cons] at h
    rcases List.mem_cons.mp hx with hxa | hxl
    · rcases List.mem_cons.mp hy with hya | hyl
      · rw [hxa, hya]
      · exact absurd (hxa ▸ he) (h.1 y hyl)
    · rcases List.mem_cons.mp hy with hya | hyl
      · exact absurd (hya ▸ he).symm (h.1 x hxl)
      · exact ih h.2 hxl hyl he
theorem ne_sym {x y : Int32 × Int32} (h : x.1 ≠ y.1) : y.1 ≠ x.1 := fun z => h z.symm
theorem rP.pw' {p p' : pT} (h : rP p p') : (pL p').Pairwise (fun a b => a.1 ≠ b.1) := (h.1.pairwise_iff (fun {_ _} z => ne_sym z)).mp h.2.1
/-- where a key is found -/
theorem pFo {pk ps : Nat → Int32} {m : Nat} {key : Int32} {i : Nat} (h : aFo (fun j => decide (pk j = key)) m 0 = some i) : i < m ∧ (key, ps i) ∈ pL (pk, ps, m) := by
  obtain ⟨-, h2, h3⟩ := aFo_some h
  have e : pk i = key := of_decide_eq_true h3
  exact ⟨by omega, (gL_mem _ _).mpr ⟨i, Nat.zero_le _, h2, by simp [pE, e]⟩⟩
theorem pFn {pk ps : Nat → Int32} {m : Nat} {key : Int32} (h : aFo (fun j => decide (pk j = key)) m 0 = none) : ∀ x ∈ pL (pk, ps, m), x.1 ≠ key := by
  intro x hx
  obtain ⟨i, h1, h2, rfl⟩ := (gL_mem _ _).mp hx
  exact of_decide_eq_false (aFo_none h i h1 h2)
theorem rP.find {p p' : pT} (h : rP p p') (key : Int32) : (aFo (fun j => decide (p.1 j = key)) p.2.2 0 = none ∧ aFo (fun j => decide (p'.1 j = key)) p'.2.2 0 = none) ∨ ∃ i j, aFo (fun j => decide (p.1 j = key)) p.2.2 0 = some i ∧ aFo (fun j => decide (p'.1 j = key)) p'.2.2 0 = some j ∧ i < p.2.2 ∧ j < p'.2.2 ∧ p.2.1 i = p'.2.1 j := by
  cases h1 : aFo (fun j => decide (p.1 j = key)) p.2.2 0 with
  | none =>
    cases h2 : aFo (fun j => decide (p'.1 j = key)) p'.2.2 0 with
    | none => exact Or.inl ⟨rfl, rfl⟩
    | some j =>
      have hm := (pFo (ps := p'.2.1) h2).2
      exact absurd rfl (pFn (ps := p.2.1) h1 _ (h.1.mem_iff.mpr hm))
  | some i =>
    have hi := pFo (ps := p.2.1) h1
    cases h2 : aFo (fun j => decide (p'.1 j = key)) p'.2.2 0 with
    | none => exact absurd rfl (pFn (ps := p'.2.1) h2 _ (h.1.mem_iff.mp hi.2))
    | some j =>
      have hj := pFo (ps := p'.2.1) h2
      refine Or.inr ⟨i, j, rfl, rfl, hi.1, hj.1, ?_⟩
      have := pw_eq h.2.1 hi.2 (h.1.mem_iff.mpr hj.2) rfl
      exact (Prod.mk.inj this).2
/-- without a key -/
theorem filt_mid {l1 l2 : List (Int32 × Int32)} {key v : Int32} (h : (l1 ++ (key, v) :: l2).Pairwise (fun a b => a.1 ≠ b.1)) : (l1 ++ (key, v) :: l2).filter (fun e => decide (¬ e.1 = key)) = l1 ++ l2 := by
  obtain ⟨h1, h2, -⟩ := pw_mid h
  rw [List.filter_append, List.filter_cons_of_neg (by simp), List.filter_eq_self.mpr (fun a ha => decide_eq_true (h1 a ha)), List.filter_eq_self.mpr (fun a ha => decide_eq_true (show ¬ a.1 = key from fun z => h2 a ha z.symm))]
theorem rP.drop {p p' : pT} {key : Int32} {q : pT} (h : rP p p') (hq : (pL q).Perm ((pL p').filter (fun e => decide (¬ e.1 = key)))) : rP (pKe (fun k _ => decide (¬ k = key)) p.1 p.2.1 p.2.2) q := by
  refine ⟨?_, ?_, ?_, ?_⟩
  · rw [pL_ke]
    exact (h.1.filter _).trans hq.symm
  · rw [pL_ke]
    exact h.2.1.filter _
  · rw [pL_ke]
    intro x hx
    exact h.2.2.1 x (List.mem_filter.mp hx).1
  · have := pKe_le (fun k _ => decide (¬ k = key)) p.2.2 0 (p.1, p.2.1, 0) (Nat.le_refl _)
    have h6 := h.2.2.2
    unfold pKe
    omega
theorem rP.keepS {p p' : pT} {s : Int32} (h : rP p p') : rP (pKe (fun _ k => decide (¬ k = s)) p.1 p.2.1 p.2.2) (pKe (fun _ k => decide (¬ k = s)) p'.1 p'.2.1 p'.2.2) := by
  refine ⟨?_, ?_, ?_, ?_⟩
  · rw [pL_ke, pL_ke]
    exact h.1.filter _
  · rw [pL_ke]
    exact h.2.1.filter _
  · rw [pL_ke]
    intro x hx
    exact h.2.2.1 x (List.mem_filter.mp hx).1
  · have := pKe_le (fun _ k => decide (¬ k = s)) p.2.2 0 (p.1, p.2.1, 0) (Nat.le_refl _)
    have h6 := h.2.2.2
    unfold pKe
    omega
/-- a key pinned anew: the class's way and the reference's -/
theorem rP.put {p p' : pT} {key sv : Int32} {q : pT} {s : Nat} (hs : s < 10) (hsv : sv = nI s) (hc : (pKe (fun k _ => decide (¬ k = key)) p.1 p.2.1 p.2.2).2.2 < 6) (h : rP p p') (hq : (pL q).Perm ((pL p').filter (fun e => decide (¬ e.1 = key)) ++ [(key, sv)])) : rP (pAp key sv (pKe (fun k _ => decide (¬ k = key)) p.1 p.2.1 p.2.2)) q := by
  have hpl := pL_ke (fun k _ => decide (¬ k = key)) p.1 p.2.1 p.2.2
  refine ⟨?_, ?_, ?_, hc⟩
  · rw [pL_ap, hpl]
    exact ((h.1.filter _).append_right _).trans hq.symm
  · rw [pL_ap, hpl, List.pairwise_append]
    refine ⟨h.2.1.filter _, List.pairwise_singleton _ _, fun a ha b hb => ?_⟩
    rw [List.mem_singleton.mp hb]
    exact of_decide_eq_true (List.mem_filter.mp ha).2
  · rw [pL_ap, hpl]
    intro x hx
    rcases List.mem_append.mp hx with hx | hx
    · exact h.2.2.1 x (List.mem_filter.mp hx).1
    · rw [List.mem_singleton.mp hx]
      exact ⟨s, hs, hsv⟩
/-- the reference's list with place i put anew, or taken by the last -/
theorem pL_set {p' : pT} {key sv : Int32} {i : Nat} (hpw : (pL p').Pairwise (fun a b => a.1 ≠ b.1)) (hf : aFo (fun j => decide (p'.1 j = key)) p'.2.2 0 = some i) : (pL (upd p'.1 i key, upd p'.2.1 i sv, p'.2.2)).Perm ((pL p').filter (fun e => decide (¬ e.1 = key)) ++ [(key, sv)]) := by
  obtain ⟨-, h2, h3⟩ := aFo_some hf
  have hi : i < p'.2.2 := by omega
  have hk : p'.1 i = key := of_decide_eq_true h3
  have e0 : pL p' = gL (pE p'.1 p'.2.1) i 0 ++ (key, p'.2.1 i) :: gL (pE p'.1 p'.2.1) (p'.2.2 - i - 1) (i + 1) := by
    show gL (pE p'.1 p'.2.1) p'.2.2 0 = _
    rw [gL_at hi]
    simp only [pE, hk]
  have e1 : pL (upd p'.1 i key, upd p'.2.1 i sv, p'.2.2) = gL (pE p'.1 p'.2.1) i 0 ++ (key, sv) :: gL (pE p'.1 p'.2.1) (p'.2.2 - i - 1) (i + 1) := by
    show gL (pE (upd p'.1 i key) (upd p'.2.1 i sv)) p'.2.2 0 = _
    rw [gL_put (e := pE p'.1 p'.2.1) hi (fun j _ hj => by simp [pE, upd, hj])]
    simp [pE, upd]
  rw [e0] at hpw ⊢
  rw [e1, filt_mid hpw]
  exact List.perm_middle.trans ((List.perm_append_comm (l₁ := [(key, sv)])).trans (List.Perm.refl _))
theorem pL_swap {p' : pT} {key : Int32} {i : Nat} (hpw : (pL p').Pairwise (fun a b => a.1 ≠ b.1)) (hf : aFo (fun j => decide (p'.1 j = key)) p'.2.2 0 = some i) : (pL (upd p'.1 i (p'.1 (p'.2.2 - 1)), upd p'.2.1 i (p'.2.1 (p'.2.2 - 1)), p'.2.2 - 1)).Perm ((pL p').filter (fun e => decide (¬ e.1 = key))) := by
  obtain ⟨-, h2, h3⟩ := aFo_some hf
  have hi : i < p'.2.2 := by omega
  have hk : p'.1 i = key := of_decide_eq_true h3
  obtain ⟨m, hm⟩ : ∃ m, p'.2.2 = m + 1 := ⟨p'.2.2 - 1, by omega⟩
  have e0 : pL p' = gL (pE p'.1 p'.2.1) i 0 ++ (key, p'.2.1 i) :: gL (pE p'.1 p'.2.1) (p'.2.2 - i - 1) (i + 1) := by
    show gL (pE p'.1 p'.2.1) p'.2.2 0 = _
    rw [gL_at hi]
    simp only [pE, hk]
  rw [e0] at hpw ⊢
  rw [filt_mid hpw]
  show (gL (pE (upd p'.1 i (p'.1 (p'.2.2 - 1))) (upd p'.2.1 i (p'.2.1 (p'.2.2 - 1)))) (p'.2.2 - 1) 0).Perm _
  rw [hm, Nat.add_sub_cancel]
  rcases Nat.lt_or_ge i m with q | q
  · rw [gL_put (e := pE p'.1 p'.2.1) q (fun j _ hj => by simp [pE, upd, hj])]
    have e2 : gL (pE p'.1 p'.2.1) (m + 1 - i - 1) (i + 1) = gL (pE p'.1 p'.2.1) (m - i - 1) (i + 1) ++ [pE p'.1 p'.2.1 m] := by
      have := gL_app (e := pE p'.1 p'.2.1) (m - i - 1) 1 (i + 1)
      rw [show m - i - 1 + 1 = m + 1 - i - 1 by omega, show i + 1 + (m - i - 1) = m by omega] at this
      exact this
    rw [e2]
    simp only [pE, upd, if_true]
    refine List.perm_middle.trans ?_
    rw [← List.append_assoc]
    exact (List.perm_append_comm (l₁ := [(p'.1 m, p'.2.1 m)])).trans (List.Perm.refl _)
  · obtain rfl : i = m := by omega
    rw [show i + 1 - i - 1 = 0 by omega]
    show (gL _ i 0).Perm (gL _ i 0 ++ [])
    rw [List.append_nil, gL_congr (e' := pE p'.1 p'.2.1) i 0 (fun j _ h => by simp [pE, upd, show j ≠ i by omega])]
