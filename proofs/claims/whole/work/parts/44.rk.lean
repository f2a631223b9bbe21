/-! written by wip/whole/pp.py out of wip/whole/src/44.rk.lean -/

/-! ===== loads are bounded; the ranking has a last server ===== -/
def lB (B : Int) (t : fT) : Prop := ∀ j, j < 10 → 0 ≤ (t.2.2.2.1 j).toInt ∧ (t.2.2.2.1 j).toInt ≤ B
def rL (B : Int) (t : fT) (y : hT) : Prop := lB B t ∧ ∀ i, i < y.1 → lB B (hS y i)
theorem lB.weak {B B' : Int} {t : fT} (h : lB B t) (hb : B ≤ B') : lB B' t := fun j hj => ⟨(h j hj).1, Int.le_trans (h j hj).2 hb⟩
theorem rL.weak {B B' : Int} {t : fT} {y : hT} (h : rL B t y) (hb : B ≤ B') : rL B' t y := ⟨h.1.weak hb, fun i hi => (h.2 i hi).weak hb⟩
theorem sCN_lB {B : Int} {s t : fT} (h : lB B s) : lB B (sCN s t) := by
  intro j hj
  have : (sCN s t).2.2.2.1 j = s.2.2.2.1 j := by show fFl 10 s.2.2.2.1 t.2.2.2.1 j = _; simp [fFl, hj]
  rw [this]; exact h j hj
theorem rL.rem {B B' : Int} {t t' : fT} {y : hT} (hy4 : y.1 ≤ 4) (h : rL B t y) (hb : B ≤ B') (h' : lB B' t') : rL B' t' (yRm t y) := by
  refine ⟨h', fun i hi => ?_⟩
  have hi' : i < (if y.1 < 4 then y.1 + 1 else 4) := hi
  rcases Nat.eq_zero_or_pos i with q | q
  · subst q; exact sCN_lB (h.1.weak hb)
  · obtain ⟨w, rfl⟩ : ∃ w, i = w + 1 := ⟨i - 1, by omega⟩
    have hw : w < y.1 ∧ w < 3 := by split at hi' <;> omega
    have hy : hS (yRm t y) (w + 1) = hS y w := by
      match w, hw.2 with
      | 0, _ => rfl
      | 1, _ => rfl
      | 2, _ => rfl
    rw [hy]
    exact (h.2 w hw.1).weak hb
theorem rL.back {B B' : Int} {t : fT} {y : hT} (hy4 : y.1 ≤ 4) (h0 : 0 < y.1) (h : rL B t y) (hb : B ≤ B') : rL B' (sCN y.2.1 t) (yBk y) := by
  refine ⟨sCN_lB ((h.2 0 h0).weak hb), fun i hi => ?_⟩
  have hi' : i < y.1 - 1 := hi
  have hy : hS (yBk y) i = hS y (i + 1) := by
    match i, (show i < 3 by omega) with
    | 0, _ => rfl
    | 1, _ => rfl
    | 2, _ => rfl
  rw [hy]
  exact (h.2 (i + 1) (by omega)).weak hb
theorem lB.put {B : Int} {t : fT} {i n w : Nat} (h : lB B t) (hB : 0 ≤ B) : lB B (fPut t i n w) := by
  intro j hj
  show 0 ≤ (vp_updL t.2.2.2.1 i 0 j).toInt ∧ (vp_updL t.2.2.2.1 i 0 j).toInt ≤ B
  unfold vp_updL
  split
  · have : (0 : Int64).toInt = 0 := by decide
    omega
  · exact h j hj
theorem lB.ald {B : Int} {t : fT} {s n : Int32} (h : lB B t) (hB0 : 0 ≤ B) (hB : B + 1000000 < 2 ^ 59) (hn1 : 1 ≤ n.toInt) (hn2 : n.toInt ≤ 1000000) : lB (B + 1000000) (fAld t s n) := by
  intro j hj
  have hh := h j hj
  unfold fAld
  by_cases q : fHs (cS t).1 s = true
  · rw [if_pos q]
    obtain ⟨i, hi, rfl⟩ := vp_in_of (fHs_in q) (by decide)
    rw [cl10 hi]
    show 0 ≤ (vp_updL t.2.2.2.1 i (t.2.2.2.1 i + n.toInt64) j).toInt ∧ (vp_updL t.2.2.2.1 i (t.2.2.2.1 i + n.toInt64) j).toInt ≤ B + 1000000
    unfold vp_updL
    split
    · have hi2 := h i hi
      rw [i64_add (by rw [Int32.toInt_toInt64]; omega) (by rw [Int32.toInt_toInt64]; omega), Int32.toInt_toInt64]
      omega
    · omega
  · rw [if_neg q]
    show 0 ≤ (t.2.2.2.1 j).toInt ∧ (t.2.2.2.1 j).toInt ≤ B + 1000000
    omega
theorem i64_mul {a b : Int64} (h1 : -(2 ^ 63) ≤ a.toInt * b.toInt) (h2 : a.toInt * b.toInt < 2 ^ 63) : (a * b).toInt = a.toInt * b.toInt := by
  rw [Int64.toInt_mul]
  have e : ((2 ^ 64 : Nat) : Int) = 18446744073709551616 := rfl
  generalize a.toInt * b.toInt = x at *
  simp only [Int.bmod]
  rw [e]
  split <;> omega
/-- a stands ahead of b: loads by weights -/
def bef (La Wa Lb Wb : Int) (a b : Nat) : Prop := Lb * Wa < La * Wb ∨ (La * Wb = Lb * Wa ∧ a < b)
theorem bef_tot {La Wa Lb Wb : Int} {a b : Nat} (h : a ≠ b) : bef La Wa Lb Wb a b ∨ bef Lb Wb La Wa b a := by
  unfold bef
  rcases Int.lt_trichotomy (Lb * Wa) (La * Wb) with q | q | q
  · exact Or.inl (Or.inl q)
  · rcases Nat.lt_or_ge a b with z | z
    · exact Or.inl (Or.inr ⟨q.symm, z⟩)
    · exact Or.inr (Or.inr ⟨q, by omega⟩)
  · exact Or.inr (Or.inl q)
theorem bef_tr {La Wa Lb Wb Lc Wc : Int} {a b c : Nat} (ha : 0 < Wa) (hb : 0 < Wb) (hc : 0 < Wc) (h1 : bef La Wa Lb Wb a b) (h2 : bef Lb Wb Lc Wc b c) : bef La Wa Lc Wc a c := by
  unfold bef at *
  have le1 : Lb * Wa * Wc ≤ La * Wb * Wc := Int.mul_le_mul_of_nonneg_right (by omega) (by omega)
  have le2 : Lc * Wb * Wa ≤ Lb * Wc * Wa := Int.mul_le_mul_of_nonneg_right (by omega) (by omega)
  have e1 : Lb * Wa * Wc = Lb * Wc * Wa := Int.mul_right_comm _ _ _
  have e2 : La * Wb * Wc = La * Wc * Wb := Int.mul_right_comm _ _ _
  have e3 : Lc * Wb * Wa = Lc * Wa * Wb := Int.mul_right_comm _ _ _
  have fin : ∀ {x y : Int}, x * Wb < y * Wb → x < y := fun h => Int.lt_of_mul_lt_mul_right h (by omega)
  have fine : ∀ {x y : Int}, x * Wb = y * Wb → x = y := fun h => Int.eq_of_mul_eq_mul_right (by omega) h
  rcases h1 with h1 | ⟨h1, h1'⟩
  · have l1 : Lb * Wa * Wc < La * Wb * Wc := Int.mul_lt_mul_of_pos_right h1 hc
    exact Or.inl (fin (by omega))
  · rcases h2 with h2 | ⟨h2, h2'⟩
    · have l2 : Lc * Wb * Wa < Lb * Wc * Wa := Int.mul_lt_mul_of_pos_right h2 ha
      exact Or.inl (fin (by omega))
    · refine Or.inr ⟨fine ?_, by omega⟩
      have q1 : La * Wb * Wc = Lb * Wa * Wc := by rw [h1]
      have q2 : Lb * Wc * Wa = Lc * Wb * Wa := by rw [h2]
      omega
section LST
variable {t : fT} {v : sT} {B : Int}
abbrev bfS (t : fT) (a b : Nat) : Prop := bef (t.2.2.2.1 a).toInt (t.2.1 a) (t.2.2.2.1 b).toInt (t.2.1 b) a b
theorem last_ex (h : rS t v) : ∀ n, n ≤ 10 → (∀ j, j < n → cOn t j = false) ∨ ∃ s, s < n ∧ cOn t s = true ∧ ∀ j, j < n → j ≠ s → cOn t j = true → bfS t j s
  | 0, _ => Or.inl (fun j hj => absurd hj (Nat.not_lt_zero j))
  | n + 1, hn => by
    have wp : ∀ s, s < 10 → cOn t s = true → (0 : Int) < (t.2.1 s : Int) := fun s hs ho => by have := (h.up_w hs ho).1; omega
    cases ho : cOn t n with
    | false =>
      rcases last_ex h n (by omega) with z | ⟨s, h1, h2, h3⟩
      · refine Or.inl (fun j hj => ?_)
        rcases Nat.lt_or_ge j n with q | q
        · exact z j q
        · rw [show j = n by omega]; exact ho
      · refine Or.inr ⟨s, by omega, h2, fun j hj hjs hoj => ?_⟩
        rcases Nat.lt_or_ge j n with q | q
        · exact h3 j q hjs hoj
        · rw [show j = n by omega, ho] at hoj; cases hoj
    | true =>
      rcases last_ex h n (by omega) with z | ⟨s, h1, h2, h3⟩
      · refine Or.inr ⟨n, by omega, ho, fun j hj hjn hoj => ?_⟩
        rw [z j (by omega)] at hoj; cases hoj
      · rcases bef_tot (La := (t.2.2.2.1 s).toInt) (Wa := t.2.1 s) (Lb := (t.2.2.2.1 n).toInt) (Wb := t.2.1 n) (show s ≠ n by omega) with q | q
        · refine Or.inr ⟨n, by omega, ho, fun j hj hjn hoj => ?_⟩
          by_cases qs : j = s
          · rw [qs]; exact q
          · exact bef_tr (wp j (by omega) hoj) (wp s (by omega) h2) (wp n (by omega) ho) (h3 j (by omega) qs hoj) q
        · refine Or.inr ⟨s, by omega, h2, fun j hj hjs hoj => ?_⟩
          rcases Nat.lt_or_ge j n with q2 | q2
          · exact h3 j q2 hjs hoj
          · rw [show j = n by omega]; exact q
theorem rS.fRk_iff (h : rS t v) (hl : lB B t) (hB : B < 2 ^ 59) {i j : Nat} (hi : i < 10) (hj : j < 10) (oi : cOn t i = true) (oj : cOn t j = true) : fRk (cS t).1 (cS t).2.1 (cS t).2.2.2.1 (nI i) (nI j) = true ↔ bfS t i j := by
  have hon : ∀ s, s < 10 → cOn t s = true → fHs (cS t).1 (nI s) = true := fun s hs ho => by
    rw [h.fhs hs]
    unfold cOn at ho
    rw [Bool.and_eq_true] at ho
    exact ho.1
  have hw : ∀ s, s < 10 → ((nI (t.2.1 s)).toInt64).toInt = (t.2.1 s : Int) := fun s hs => by
    have := h.2.2.2.2.1.2.1 s hs
    rw [Int32.toInt_toInt64, nI_toInt (by omega)]
  have hm : ∀ a b, a < 10 → b < 10 → (t.2.2.2.1 a * (nI (t.2.1 b)).toInt64).toInt = (t.2.2.2.1 a).toInt * (t.2.1 b : Int) := fun a b ha hb => by
    have h1 := hl a ha
    have h2 := h.2.2.2.2.1.2.1 b hb
    have h3 : (0 : Int) ≤ (t.2.2.2.1 a).toInt * (t.2.1 b : Int) := Int.mul_nonneg h1.1 (by omega)
    have h4 : (t.2.2.2.1 a).toInt * (t.2.1 b : Int) ≤ (2 ^ 59 - 1) * 16 := Int.mul_le_mul (by omega) (by omega) (by omega) (by omega)
    rw [i64_mul (by rw [hw b hb]; omega) (by rw [hw b hb]; omega), hw b hb]
  have e1 : fLd (cS t).1 (cS t).2.2.2.1 (nI i) = t.2.2.2.1 i := by unfold fLd; rw [hon i hi oi, cl10 hi]; rfl
  have e2 : fLd (cS t).1 (cS t).2.2.2.1 (nI j) = t.2.2.2.1 j := by unfold fLd; rw [hon j hj oj, cl10 hj]; rfl
  have e3 : fWt (cS t).1 (cS t).2.1 (nI i) = nI (t.2.1 i) := by unfold fWt; rw [hon i hi oi, cl10 hi]; rfl
  have e4 : fWt (cS t).1 (cS t).2.1 (nI j) = nI (t.2.1 j) := by unfold fWt; rw [hon j hj oj, cl10 hj]; rfl
  unfold fRk
  rw [e1, e2, e3, e4, Bool.or_eq_true, Bool.and_eq_true, decide_eq_true_eq, decide_eq_true_eq, decide_eq_true_eq, lg_cmp_gt, lg_cmp_eq, Int64.lt_iff_toInt_lt, ← Int64.toInt_inj, hm i j hi hj, hm j i hj hi, nI_leI (by omega) (by omega)]
  unfold bfS bef
  omega
theorem rel_last (h : rS t v) (hl : lB B t) (hB : B < 2 ^ 59) (h0 : ¬ fUc (cS t).1 (cS t).2.2.1 = 0) : ∃ s, s < 10 ∧ xHs t = nI s := by
  rcases last_ex h 10 (Nat.le_refl _) with z | ⟨s, h1, h2, h3⟩
  · refine absurd ?_ h0
    rw [h.ucN]
    have : cN (cOn t) 10 = 0 := by
      rcases Nat.eq_zero_or_pos (cN (cOn t) 10) with q | q
      · exact q
      · obtain ⟨j, hj, ho⟩ := cN_pos q
        rw [z j hj] at ho; cases ho
    rw [this]; rfl
  · have hle := cN_le (cOn t) 10
    have hirr : ¬ bfS t s s := by unfold bfS bef; omega
    have hc := cN_sub (P := cOn t) (P' := fun j => cOn t j && fRk (cS t).1 (cS t).2.1 (cS t).2.2.2.1 (nI j) (nI s)) (i := s) (n := 10) h1 h2 (by
      rw [h2, Bool.true_and]
      cases hz : fRk (cS t).1 (cS t).2.1 (cS t).2.2.2.1 (nI s) (nI s) with
      | false => rfl
      | true => exact absurd ((h.fRk_iff hl hB h1 h1 h2 h2).mp hz) hirr) (fun j hj hjs => by
      cases ho : cOn t j with
      | false => rw [Bool.false_and]
      | true => rw [Bool.true_and, (h.fRk_iff hl hB hj h1 ho h2).mpr (h3 j hj hjs ho)])
    have hcb : fCb (cS t).1 (cS t).2.1 (cS t).2.2.1 (cS t).2.2.2.1 (nI s) = nI (cN (fun j => cOn t j && fRk (cS t).1 (cS t).2.1 (cS t).2.2.2.1 (nI j) (nI s)) 10) := by
      rw [← aLp_cN0]
      unfold fCb
      exact aLp_congr 10 (fun j a hj => by rw [h.fup hj]) 10 0 0 (Nat.zero_add 10)
    have hp : fUc (cS t).1 (cS t).2.2.1 - 1 = fCb (cS t).1 (cS t).2.1 (cS t).2.2.1 (cS t).2.2.2.1 (nI s) := by
      rw [h.ucN, hcb, hc, nI_pred]
    obtain ⟨i, hi⟩ := aFo_ex (P := fun j => fUp (cS t).1 (cS t).2.2.1 (nI j) && decide (fCb (cS t).1 (cS t).2.1 (cS t).2.2.1 (cS t).2.2.2.1 (nI j) = fUc (cS t).1 (cS t).2.2.1 - 1)) (k := 10) (j := 0) ⟨s, Nat.zero_le _, by omega, by rw [h.fup h1, h2, Bool.true_and]; exact decide_eq_true hp.symm⟩
    refine ⟨i, by have := (aFo_some hi).2.1; omega, ?_⟩
    unfold xHs fRd
    rw [aFd_o, hi]
    rfl
end LST
