/-! written by wip/whole/pp.py out of wip/whole/src/23.pt2.lean -/

/-! ===== PreferenceTable: states in whole numbers ===== -/
def dUp {α : Type} (T : Nat → α) (s : Nat) (x : α) : Nat → α := fun j => if j = s then x else T j
theorem upd_N {A : Nat → Nat} {i n : Nat} : upd (fun j => nI (A j)) i (nI n) = fun j => nI (dUp A i n j) := by
  funext j; simp only [upd, dUp]; split <;> rfl
theorem upd_B {U : Nat → Bool} {i : Nat} {b : Bool} : upd (fun j => bI (U j)) i (bI b) = fun j => bI (dUp U i b j) := by
  funext j; simp only [upd, dUp]; split <;> rfl
theorem fFl_N {A B : Nat → Nat} {n : Nat} : fFl n (fun j => nI (A j)) (fun j => nI (B j)) = fun j => nI (fFl n A B j) := by
  funext j; simp only [fFl]; split <;> rfl
theorem fFl_B {A B : Nat → Bool} {n : Nat} : fFl n (fun j => bI (A j)) (fun j => bI (B j)) = fun j => bI (fFl n A B j) := by
  funext j; simp only [fFl]; split <;> rfl
def sCN (s t : fT) : fT := (fFl 10 s.1 t.1, fFl 10 s.2.1 t.2.1, fFl 10 s.2.2.1 t.2.2.1, fFl 10 s.2.2.2.1 t.2.2.2.1, fFl 6 s.2.2.2.2.1 t.2.2.2.2.1, fFl 6 s.2.2.2.2.2.1 t.2.2.2.2.2.1, s.2.2.2.2.2.2)
theorem sCp_N (s t : fT) : sCp (cS s) (cS t) = cS (sCN s t) := by
  simp only [sCp, cS, sCN, fFl_N, fFl_B]
theorem sBo_c (s : fT) : sBo (cS s) := fun j _ => bI_vp _
def fOk (t : fT) : Prop := (∀ j, j < 10 → t.1 j ≤ 9999) ∧ (∀ j, j < 10 → t.2.1 j ≤ 16) ∧ t.2.2.2.2.2.2 ≤ 6
def bOk (b : bT) : Prop := 5 ≤ b.1 ∧ b.1 ≤ 61
def gW (t : fT) (lo : Int32) : Nat := aLp (fun j c => if dOn (cS t).1 (cS t).2.2.1 lo j then (if c < t.2.1 j then t.2.1 j else c) else c) 10 0 0
theorem gW_N {t : fT} (hW : ∀ j, j < 10 → t.2.1 j ≤ 16) (lo : Int32) : fGw (cS t).1 (cS t).2.1 (cS t).2.2.1 lo = nI (gW t lo) ∧ gW t lo ≤ 16 := by
  have key : ∀ (k j a : Nat), j + k = 10 → a ≤ 16 → aLp (fun j c => if decide (¬ nI j = lo) && fUp (cS t).1 (cS t).2.2.1 (nI j) then (if c < (cS t).2.1 j then (cS t).2.1 j else c) else c) k j (nI a) = nI (aLp (fun j c => if dOn (cS t).1 (cS t).2.2.1 lo j then (if c < t.2.1 j then t.2.1 j else c) else c) k j a) ∧ aLp (fun j c => if dOn (cS t).1 (cS t).2.2.1 lo j then (if c < t.2.1 j then t.2.1 j else c) else c) k j a ≤ 16 := by
    intro k
    induction k with
    | zero => intro j a _ ha; exact ⟨rfl, ha⟩
    | succ k ih =>
      intro j a hj ha
      have hw := hW j (by omega)
      have he : (if decide (¬ nI j = lo) && fUp (cS t).1 (cS t).2.2.1 (nI j) then (if nI a < (cS t).2.1 j then (cS t).2.1 j else nI a) else nI a) = nI (if dOn (cS t).1 (cS t).2.2.1 lo j then (if a < t.2.1 j then t.2.1 j else a) else a) := by
        show (if dOn (cS t).1 (cS t).2.2.1 lo j then (if nI a < nI (t.2.1 j) then nI (t.2.1 j) else nI a) else nI a) = _
        by_cases h1 : dOn (cS t).1 (cS t).2.2.1 lo j = true
        · rw [if_pos h1, if_pos h1]
          by_cases h2 : a < t.2.1 j
          · rw [if_pos h2, if_pos (nI_lt h2 (by omega))]
          · rw [if_neg h2, if_neg (nI_nlt (by omega) (by omega))]
        · rw [if_neg h1, if_neg h1]
      have hb : (if dOn (cS t).1 (cS t).2.2.1 lo j then (if a < t.2.1 j then t.2.1 j else a) else a) ≤ 16 := by
        split
        · split
          · exact hw
          · exact ha
        · exact ha
      have := ih (j + 1) (if dOn (cS t).1 (cS t).2.2.1 lo j then (if a < t.2.1 j then t.2.1 j else a) else a) (by omega) hb
      rw [← he] at this
      exact this
  exact key 10 0 0 rfl (by omega)
/-- the table built anew: for all servers that are up but lo -/
def nDr (t : fT) (b : bT) (lo : Int32) : dT := dDr b.1 t.1 t.2.1 (cS t).1 (cS t).2.2.1 lo (gW t lo) b.2.2.1 b.2.2.2.1
def bRb (t : fT) (b : bT) : bT := (b.1, (nDr t b (-1)).1, b.2.1, (nDr t b (-1)).2.1, sCc b.2.1 (nDr t b (-1)).1 b.1, sCf b.2.1 (cS t).1 (cS t).2.2.1 b.1)
def bWo (t : fT) (b : bT) (lo : Int32) : bT := (b.1, b.2.1, (nDr t b lo).1, (nDr t b lo).2.1, b.2.2.2.2.1, b.2.2.2.2.2)
/-- servers changed -/
def fPut (t : fT) (i n w : Nat) : fT := (dUp t.1 i n, dUp t.2.1 i w, dUp t.2.2.1 i true, vp_updL t.2.2.2.1 i 0, t.2.2.2.2)
def fDrp (t : fT) (i : Nat) : fT := (dUp t.1 i 0, t.2)
def fSwt (t : fT) (i w : Nat) : fT := (t.1, dUp t.2.1 i w, t.2.2)
def fSup (t : fT) (i : Nat) (b : Bool) : fT := (t.1, t.2.1, dUp t.2.2.1 i b, t.2.2.2)
def fAld (t : fT) (s n : Int32) : fT := (t.1, t.2.1, t.2.2.1, (if fHs (cS t).1 s then vp_updL t.2.2.2.1 s.toNatClampNeg (t.2.2.2.1 s.toNatClampNeg + n.toInt64) else t.2.2.2.1), t.2.2.2.2)
def fPin (t : fT) (p : pT) : fT := (t.1, t.2.1, t.2.2.1, t.2.2.2.1, p.1, p.2.1, p.2.2)
def fClr (t : fT) : fT := (fFl 10 (fun _ => 0) t.1, t.2.1, t.2.2.1, t.2.2.2.1, t.2.2.2.2.1, t.2.2.2.2.2.1, 0)
abbrev aFN (t : fT) : List aCell := aFt (cS t).1 (cS t).2.1 (cS t).2.2.1 (cS t).2.2.2.1
section PTN
variable {l : Launch} {X : aX} {t : fT}
theorem n_put (i n w : Nat) (hi : i < 10) : aWr l X mX0_put rs5 [.ref 0, .int (nI i), .int (nI n), .int (nI w)] (aFN t) none (aFN (fPut t i n w)) := by
  have := c_X0_put (l := l) (X := X) (nm := (cS t).1) (wt := (cS t).2.1) (up := (cS t).2.2.1) (ld := (cS t).2.2.2.1) (nI i) (nI n) (nI w) (fNm_j hi)
  rw [cl10 hi] at this
  simp only [cS] at this
  rw [upd_N, upd_N, show (1 : Int32) = bI true from rfl, upd_B] at this
  exact this
theorem n_drop (i : Nat) (hi : i < 10) : aWr l X mX0_drop rs5 [.ref 0, .int (nI i)] (aFN t) none (aFN (fDrp t i)) := by
  have := c_X0_drop (l := l) (X := X) (nm := (cS t).1) (wt := (cS t).2.1) (up := (cS t).2.2.1) (ld := (cS t).2.2.2.1) (nI i) (fNm_j hi)
  rw [cl10 hi] at this
  simp only [cS] at this
  rw [show (0 : Int32) = nI 0 from rfl, upd_N] at this
  exact this
theorem n_changeWeight (i w : Nat) (hi : i < 10) (hh : fHs (cS t).1 (nI i) = true) : aWr l X mX0_changeWeight rs5 [.ref 0, .int (nI i), .int (nI w)] (aFN t) none (aFN (fSwt t i w)) := by
  have := c_X0_changeWeight (l := l) (X := X) (nm := (cS t).1) (wt := (cS t).2.1) (up := (cS t).2.2.1) (ld := (cS t).2.2.2.1) (nI i) (nI w) hh
  rw [cl10 hi] at this
  simp only [cS] at this
  rw [upd_N] at this
  exact this
theorem n_changeUp (i : Nat) (b : Bool) (hi : i < 10) (hh : fHs (cS t).1 (nI i) = true) : aWr l X mX0_changeUp rs5 [.ref 0, .int (nI i), .int (bI b)] (aFN t) none (aFN (fSup t i b)) := by
  have := c_X0_changeUp (l := l) (X := X) (nm := (cS t).1) (wt := (cS t).2.1) (up := (cS t).2.2.1) (ld := (cS t).2.2.2.1) (nI i) b hh
  rw [cl10 hi] at this
  simp only [cS] at this
  rw [upd_B] at this
  exact this
theorem n_clear : aWr l X mX0_clear rs5 [.ref 0] (aFN t) none (aFN (fClr t)) := by
  have := c_X0_clear (l := l) (X := X) (nm := (cS t).1) (wt := (cS t).2.1) (up := (cS t).2.2.1) (ld := (cS t).2.2.2.1)
  simp only [cS] at this
  rw [show (fun _ : Nat => (0 : Int32)) = (fun j => nI ((fun _ => 0) j)) from rfl, fFl_N] at this
  exact this
abbrev aBF (b : bT) (t : fT) : List aCell := aSF b.1 b.2.1 b.2.2.1 b.2.2.2.1 b.2.2.2.2.1 b.2.2.2.2.2 (cS t).1 (cS t).2.1 (cS t).2.2.1 (cS t).2.2.2.1
theorem n_rebuild {b : bT} (ht : fOk t) (hb : bOk b) : aWr l X mX3_rebuild rsR [.ref 0, .ref 4] (aBF b t) none (aBF (bRb t b) t) :=
  c_X3_rebuild (A := t.1) (W := t.2.1) (by have := hb.1; omega) hb.2 (gW t (-1)) (gW_N ht.2.1 (-1)).1 (gW_N ht.2.1 (-1)).2 ht.1 ht.2.1 rfl
theorem n_changedWithout {b : bT} (ht : fOk t) (hb : bOk b) (lo : Int32) : aWr l X mX3_changedWithout rs9 [.ref 0, .ref 4, .int lo] (aBF b t) (some (.int (sCc b.2.1 (nDr t b lo).1 b.1))) (aBF (bWo t b lo) t) :=
  c_X3_changedWithout (A := t.1) (W := t.2.1) (by have := hb.1; omega) hb.2 lo (gW t lo) (gW_N ht.2.1 lo).1 (gW_N ht.2.1 lo).2 ht.1 ht.2.1 rfl
def yRm (t : fT) (y : hT) : hT := (if y.1 < 4 then y.1 + 1 else 4, sCN t y.2.2.2.2, y.2.1, y.2.2.1, y.2.2.2.1)
abbrev aYF (y : hT) (t : fT) : List aCell := aHi 0 y.1 (cS y.2.1) (cS y.2.2.1) (cS y.2.2.2.1) (cS y.2.2.2.2) ++ aFP 38 (cS t)
theorem n_remember {y : hT} (hy : y.1 ≤ 4) : aWr l X mX1_remember rsH [.ref 0, .ref 38, .ref 43] (aYF y t) none (aYF (yRm t y) t) := by
  have := c_X1_remember (l := l) (X := X) (z := y.1) (s0 := cS y.2.1) (s1 := cS y.2.2.1) (s2 := cS y.2.2.2.1) (s3 := cS y.2.2.2.2) (t := cS t) hy (sBo_c t)
  rw [sCp_N] at this
  exact this
def yBk (y : hT) : hT := (y.1 - 1, y.2.2.1, y.2.2.2.1, y.2.2.2.2, y.2.1)
theorem n_bringBack {y : hT} (h0 : 0 < y.1) (hy : y.1 ≤ 4) : aWr l X mX1_bringBack rsH [.ref 0, .ref 38, .ref 43] (aYF y t) none (aYF (yBk y) (sCN y.2.1 t)) := by
  have := c_X1_bringBack (l := l) (X := X) (z := y.1) (s0 := cS y.2.1) (s1 := cS y.2.2.1) (s2 := cS y.2.2.2.1) (s3 := cS y.2.2.2.2) (t := cS t) h0 hy (sBo_c _)
  rw [sCp_N] at this
  exact this
end PTN
