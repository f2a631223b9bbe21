/-! written by wip/whole/pp.py out of wip/whole/src/13.base.lean -/

/-! ===== pure words ===== -/
def bI (b : Bool) : Int32 := if b then 1 else 0
theorem bI_0 {b : Bool} (h : bI b = 0) : b = false := by cases b with | false => rfl | true => exact absurd h (by decide)
theorem bI_1 {b : Bool} (h : ¬ bI b = 0) : b = true := by cases b with | true => rfl | false => exact absurd rfl h
theorem bI_nar (b : Bool) : narrow .boolean (.int (bI b)) = .int (bI b) := by cases b <;> rfl
theorem bI_vp (b : Bool) : vp_nar .boolean (bI b) = bI b := by cases b <;> rfl
/-- a loop over places j, j + 1, .. -/
def aLp {σ : Type} (g : Nat → σ → σ) : Nat → Nat → σ → σ
  | 0, _, a => a
  | k + 1, j, a => aLp g k (j + 1) (g j a)
/-- the first place that P takes; -1 if there is none -/
def aFd (P : Nat → Bool) : Nat → Nat → Int32
  | 0, _ => -1
  | k + 1, j => if P j then nI j else aFd P k (j + 1)
theorem aLp_congr {σ : Type} {g g' : Nat → σ → σ} (N : Nat) (h : ∀ j a, j < N → g j a = g' j a) : ∀ (k j : Nat) (a : σ), j + k = N → aLp g k j a = aLp g' k j a
  | 0, _, _, _ => rfl
  | k + 1, j, a, hj => by
    show aLp g k (j + 1) (g j a) = aLp g' k (j + 1) (g' j a)
    rw [h j a (by omega)]
    exact aLp_congr N h k (j + 1) _ (by omega)
theorem aFd_congr {P P' : Nat → Bool} (N : Nat) (h : ∀ j, j < N → P j = P' j) : ∀ (k j : Nat), j + k = N → aFd P k j = aFd P' k j
  | 0, _, _ => rfl
  | k + 1, j, hj => by
    show (if P j then nI j else aFd P k (j + 1)) = (if P' j then nI j else aFd P' k (j + 1))
    rw [h j (by omega), aFd_congr N h k (j + 1) (by omega)]
theorem ge10_f {j : Nat} (h : j < 10) : ¬ (10 : Int32) ≤ nI j := nI_ge (b := 10) h (by decide)
theorem ge10_t : (10 : Int32) ≤ nI 10 := by decide
theorem in10 {j : Nat} (h : j < 10) : vp_in (nI j) 10 := vp_in_nI h (by decide)
theorem cl10 {j : Nat} (h : j < 10) : (nI j).toNatClampNeg = j := nI_clamp (by omega)
theorem i32_le_nI {c n : Nat} (hc : c < 2 ^ 31) (hn : n < 2 ^ 31) : nI c ≤ nI n ↔ c ≤ n := nI_leI hc hn
/-- the number of a server, as the class asks for it -/
def fNm (s : Int32) : Bool := decide (¬ s < 0) && decide (¬ (10 : Int32) ≤ s)
theorem fNm_in {s : Int32} (h : fNm s = true) : vp_in s 10 := by
  simp only [fNm, Bool.and_eq_true, decide_eq_true_eq] at h
  obtain ⟨j, hj, rfl⟩ := nI_of h.1
  refine vp_in_nI ?_ (by decide)
  rcases Nat.lt_or_ge j 10 with q | q
  · exact q
  · exact absurd (nI_le (a := 10) q hj) h.2
theorem fNm_j {j : Nat} (h : j < 10) : fNm (nI j) = true := by
  simp only [fNm, Bool.and_eq_true, decide_eq_true_eq]
  exact ⟨nI_pos (by omega), ge10_f h⟩
def fHs (nm : Nat → Int32) (s : Int32) : Bool := fNm s && decide (¬ nm s.toNatClampNeg = 0)
theorem fHs_in {nm : Nat → Int32} {s : Int32} (h : fHs nm s = true) : vp_in s 10 := by
  simp only [fHs, Bool.and_eq_true] at h
  exact fNm_in h.1
def fUp (nm up : Nat → Int32) (s : Int32) : Bool := fHs nm s && decide (¬ up s.toNatClampNeg = 0)
theorem fUp_in {nm up : Nat → Int32} {s : Int32} (h : fUp nm up s = true) : vp_in s 10 := by
  simp only [fUp, Bool.and_eq_true] at h
  exact fHs_in h.1
theorem fHs_j {nm : Nat → Int32} {j : Nat} (h : j < 10) : fHs nm (nI j) = decide (¬ nm j = 0) := by
  simp only [fHs, fNm_j h, cl10 h, Bool.true_and]
theorem fUp_j {nm up : Nat → Int32} {j : Nat} (h : j < 10) : fUp nm up (nI j) = (decide (¬ nm j = 0) && decide (¬ up j = 0)) := by
  simp only [fUp, fHs_j h, cl10 h]
/-- a fleet's cells -/
abbrev aFt (nm wt up : Nat → Int32) (ld : Nat → Int64) : List aCell := [aOb 0 [.ref 1, .ref 2, .ref 3, .ref 4], aIa 10 nm, aIa 10 wt, aBa 10 up, aLa 10 ld]
abbrev rs5 : List Nat := [0, 1, 2, 3, 4]
