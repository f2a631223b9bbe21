/-! written by wip/whole/pp.py out of wip/whole/src/43.rel.lean -/

/-! ===== the class's state and the reference's ===== -/
abbrev cOn (t : fT) (s : Nat) : Bool := decide (¬ t.1 s = 0) && t.2.2.1 s
abbrev tP (t : fT) : pT := (t.2.2.2.2.1, t.2.2.2.2.2.1, t.2.2.2.2.2.2)
abbrev vP (v : sT) : pT := (v.2.2.2.2.1, v.2.2.2.2.2.1, v.2.2.2.2.2.2)
def rS (t : fT) (v : sT) : Prop := (∀ j, j < 10 → v.1 j = (if t.1 j = 0 then 0 else if t.2.2.1 j then 2 else 1)) ∧ (∀ j, j < 10 → ¬ t.1 j = 0 → v.2.1 j = nI (t.1 j)) ∧ (∀ j, j < 10 → v.2.2.1 j = nI (t.2.1 j)) ∧ (∀ j, j < 10 → v.2.2.2.1 j = t.2.2.2.1 j) ∧ ((∀ j, j < 10 → t.1 j ≤ 9999) ∧ (∀ j, j < 10 → t.2.1 j ≤ 16) ∧ (∀ j, j < 10 → ¬ t.1 j = 0 → 1 ≤ t.2.1 j)) ∧ rP (tP t) (vP v)
section RS
variable {t : fT} {v : sT}
theorem nI_z {n : Nat} (h : n ≤ 9999) : nI n = 0 ↔ n = 0 := nI_eq (a := n) (b := 0) (by omega) (by decide)
theorem rS.ok (h : rS t v) : fOk t := ⟨h.2.2.2.2.1.1, h.2.2.2.2.1.2.1, h.2.2.2.2.2.2.2.2⟩
theorem rS.z (h : rS t v) {j : Nat} (hj : j < 10) : v.1 j = 0 ↔ t.1 j = 0 := by
  rw [h.1 j hj]
  by_cases q : t.1 j = 0
  · rw [if_pos q]; exact ⟨fun _ => q, fun _ => rfl⟩
  · rw [if_neg q]
    constructor
    · intro z
      split at z
      · exact absurd z (by decide)
      · exact absurd z (by decide)
    · intro z; exact absurd z q
theorem rS.on (h : rS t v) {j : Nat} (hj : j < 10) : v.1 j = 2 ↔ cOn t j = true := by
  rw [h.1 j hj]
  unfold cOn
  by_cases q : t.1 j = 0
  · rw [if_pos q]
    simp [q]
  · rw [if_neg q]
    cases t.2.2.1 j with
    | true => simp [q]
    | false => simp
theorem rS.mon (h : rS t v) {j : Nat} (hj : j < 10) : mOn v j = cOn t j := by
  rw [Bool.eq_iff_iff, decide_eq_true_iff]
  exact h.on hj
theorem rS.fhs (h : rS t v) {j : Nat} (hj : j < 10) : fHs (cS t).1 (nI j) = decide (¬ t.1 j = 0) := by
  rw [fHs_j hj]
  have : ((cS t).1 j = 0) ↔ t.1 j = 0 := nI_z (h.2.2.2.2.1.1 j hj)
  simp only [this]
theorem rS.fup (h : rS t v) {j : Nat} (hj : j < 10) : fUp (cS t).1 (cS t).2.2.1 (nI j) = cOn t j := by
  rw [fUp_j hj]
  have e1 : ((cS t).1 j = 0) ↔ t.1 j = 0 := nI_z (h.2.2.2.2.1.1 j hj)
  have e2 : decide (¬ (cS t).2.2.1 j = 0) = t.2.2.1 j := by
    show decide (¬ bI (t.2.2.1 j) = 0) = _
    cases t.2.2.1 j <;> rfl
  rw [e2]
  simp only [e1, cOn]
theorem rS.hs (h : rS t v) (s : Int32) : fHs v.1 s = fHs (cS t).1 s := by
  unfold fHs
  by_cases hn : fNm s = true
  · obtain ⟨i, hi, rfl⟩ := vp_in_of (fNm_in hn) (by decide)
    rw [cl10 hi]
    have e1 := h.z hi
    have e2 : ((cS t).1 i = 0) ↔ t.1 i = 0 := nI_z (h.2.2.2.2.1.1 i hi)
    simp only [e1, e2]
  · rw [Bool.not_eq_true] at hn
    rw [hn]; rfl
theorem fUp_m1 (nm up : Nat → Int32) : fUp nm up (-1) = false := by
  have : fNm (-1) = false := by decide
  simp [fUp, fHs, this]
theorem rS.ux (h : rS t v) {x : Int32} (hx : x = -1 ∨ ∃ s, s < 10 ∧ x = nI s) : mUx v x = fUp (cS t).1 (cS t).2.2.1 x := by
  unfold mUx
  rcases hx with rfl | ⟨s, hs, rfl⟩
  · rw [fUp_m1]; rfl
  · rw [h.fup hs, cl10 hs, ← h.mon hs]
    simp [nI_m1 (show s < 2 ^ 31 by omega)]
/-- for the building -/
theorem rS.bN (h : rS t v) : ∀ s, s < 10 → v.1 s = 2 → v.2.1 s = nI (t.1 s) := fun s hs h2 => h.2.1 s hs (fun z => by rw [h.1 s hs, if_pos z] at h2; exact absurd h2 (by decide))
theorem rS.don (h : rS t v) {s : Nat} (hs : s < 10) : dOn (cS t).1 (cS t).2.2.1 (-1) s = cOn t s := by
  unfold dOn
  rw [h.fup hs]
  simp [nI_m1 (show s < 2 ^ 31 by omega)]
end RS
theorem mxW_congr {on on' : Nat → Bool} {W W' : Nat → Nat} (ho : ∀ s, s < 10 → on s = on' s) (hW : ∀ s, s < 10 → W s = W' s) : mxW on W = mxW on' W' := by
  unfold mxW
  exact aLp_congr 10 (fun j a hj => by rw [ho j hj, hW j hj]) 10 0 0 rfl
theorem mBd_congr {M : Nat} {A W A' W' : Nat → Nat} {on on' : Nat → Bool} {T T' : Nat → Int32} (hM : 0 < M) (ho : ∀ s, s < 10 → on s = on' s) (hA : ∀ s, s < 10 → on s = true → A s = A' s) (hW : ∀ s, s < 10 → W s = W' s) {j : Nat} (hj : j < M) : mBd M A W on T j = mBd M A' W' on' T' j := by
  unfold mBd
  rw [mxW_congr ho hW]
  have hag : dAg M (fFl M (fun _ => -1) T, fun _ => 0, if 0 < mxW on' W' then M else 0) (fFl M (fun _ => -1) T', fun _ => 0, if 0 < mxW on' W' then M else 0) := ⟨fun i hi => by simp [fFl, hi], fun _ _ => rfl, rfl⟩
  exact (dOu_ag hM ho hA (fun s hs _ => hW s hs) M 1 hag).1 j hj
theorem nDr_mBd {t : fT} {b : bT} {lo : Int32} {on : Nat → Bool} {T : Nat → Int32} (hM : 0 < b.1) (hM61 : b.1 ≤ 61) (ho : ∀ s, s < 10 → dOn (cS t).1 (cS t).2.2.1 lo s = on s) {j : Nat} (hj : j < b.1) : (nDr t b lo).1 j = mBd b.1 t.1 t.2.1 on T j := by
  have hG : gW t lo = mxW on t.2.1 := mxW_congr (on := dOn (cS t).1 (cS t).2.2.1 lo) ho (fun _ _ => rfl)
  unfold nDr dDr mBd
  rw [hG]
  have hag : dAg b.1 (fFl 61 (fun _ => -1) b.2.2.1, fFl 10 (fun _ => 0) b.2.2.2.1, if 0 < mxW on t.2.1 then b.1 else 0) (fFl b.1 (fun _ => -1) T, fun _ => 0, if 0 < mxW on t.2.1 then b.1 else 0) := ⟨fun i hi => by simp [fFl, hi, show i < 61 by omega], fun s hs => by simp [fFl, hs], rfl⟩
  exact (dOu_ag hM ho (fun _ _ _ => rfl) (fun _ _ _ => rfl) b.1 1 hag).1 j hj
/-- the table is the reference's, and it is the one that the servers build -/
def rU (t : fT) (b : bT) (u : uT) : Prop := u.1 = b.1 ∧ b.1 ∈ slP ∧ (∀ j, j < b.1 → u.2.1 j = b.2.1 j) ∧ (∀ j, j < b.1 → b.2.1 j = mBd b.1 t.1 t.2.1 (cOn t) (fun _ => -1) j) ∧ u.2.2.2.1 = b.2.2.2.2.1 ∧ u.2.2.2.2 = b.2.2.2.2.2
section RU
variable {t t' : fT} {v v' : sT} {b : bT} {u : uT}
theorem rU.bok (h : rU t b u) : bOk b := slP_b h.2.1
theorem rU.slot (h : rU t b u) {j : Nat} (hj : j < b.1) : b.2.1 j = -1 ∨ ∃ s, s < 10 ∧ cOn t s = true ∧ b.2.1 j = nI s := by
  rw [h.2.2.2.1 j hj]
  exact mBd_ok h.2.1 j hj
theorem rU.uok (h : rU t b u) : uOk u.2.1 u.1 := by
  intro j hj
  rw [h.1] at hj
  rw [h.2.2.1 j hj]
  rcases h.slot hj with z | ⟨s, h1, -, h3⟩
  · exact Or.inl z
  · exact Or.inr ⟨s, h1, h3⟩
/-- behind a change of the servers -/
theorem rU.anew (h : rU t b u) (hs : rS t' v') : rU t' (bRb t' b) (uNw v' u t'.1 t'.2.1) := by
  have hb := slP_b h.2.1
  have h1 := h.1
  have ow : ∀ j, j < b.1 → (nDr t' b (-1)).1 j = mBd b.1 t'.1 t'.2.1 (cOn t') (fun _ => -1) j := fun j hj => nDr_mBd (by omega) hb.2 (fun s hs' => hs.don hs') hj
  have tb : ∀ j, j < b.1 → mBd u.1 t'.1 t'.2.1 (mOn v') u.2.1 j = (nDr t' b (-1)).1 j := by
    intro j hj
    rw [ow j hj, h1]
    exact mBd_congr (by omega) (fun s hs' => hs.mon hs') (fun _ _ _ => rfl) (fun _ _ => rfl) hj
  have wa : ∀ j, j < b.1 → fFl u.1 u.2.1 u.2.2.1 j = b.2.1 j := by
    intro j hj
    rw [← h.2.2.1 j hj]
    simp [fFl, h1, hj]
  refine ⟨h1, h.2.1, tb, ow, ?_, ?_⟩
  · show sCc (fFl u.1 u.2.1 u.2.2.1) (mBd u.1 t'.1 t'.2.1 (mOn v') u.2.1) u.1 = sCc b.2.1 (nDr t' b (-1)).1 b.1
    rw [h1] at wa tb ⊢
    exact aLp_congr b.1 (fun j a hj => by rw [wa j hj, tb j hj]) b.1 0 0 (by omega)
  · show mCf (fFl u.1 u.2.1 u.2.2.1) v' u.1 = sCf b.2.1 (cS t').1 (cS t').2.2.1 b.1
    rw [h1] at wa ⊢
    refine aLp_congr b.1 (fun j a hj => ?_) b.1 0 0 (by omega)
    rw [wa j hj, hs.ux]
    rcases h.slot hj with z | ⟨s, g1, -, g3⟩
    · exact Or.inl z
    · exact Or.inr ⟨s, g1, g3⟩
/-- servers that are the same but for pins and loads -/
theorem rU.same (h : rU t b u) (h1 : t'.1 = t.1) (h2 : t'.2.1 = t.2.1) (h3 : t'.2.2.1 = t.2.2.1) : rU t' b u := by
  refine ⟨h.1, h.2.1, h.2.2.1, ?_, h.2.2.2.2⟩
  have : cOn t' = cOn t := by unfold cOn; rw [h1, h3]
  rw [h1, h2, this]
  exact h.2.2.2.1
end RU
/-- what of a state counts -/
theorem rS_congr {t t' : fT} {v v' : sT} (a1 : ∀ j, j < 10 → t'.1 j = t.1 j) (a2 : ∀ j, j < 10 → t'.2.1 j = t.2.1 j) (a3 : ∀ j, j < 10 → t'.2.2.1 j = t.2.2.1 j) (a4 : ∀ j, j < 10 → t'.2.2.2.1 j = t.2.2.2.1 j) (a5 : ∀ j, j < 6 → t'.2.2.2.2.1 j = t.2.2.2.2.1 j ∧ t'.2.2.2.2.2.1 j = t.2.2.2.2.2.1 j) (a6 : t'.2.2.2.2.2.2 = t.2.2.2.2.2.2)
    (b1 : ∀ j, j < 10 → v'.1 j = v.1 j) (b2 : ∀ j, j < 10 → v'.2.1 j = v.2.1 j) (b3 : ∀ j, j < 10 → v'.2.2.1 j = v.2.2.1 j) (b4 : ∀ j, j < 10 → v'.2.2.2.1 j = v.2.2.2.1 j) (b5 : ∀ j, j < 6 → v'.2.2.2.2.1 j = v.2.2.2.2.1 j ∧ v'.2.2.2.2.2.1 j = v.2.2.2.2.2.1 j) (b6 : v'.2.2.2.2.2.2 = v.2.2.2.2.2.2) (h : rS t v) : rS t' v' := by
  have hm := h.2.2.2.2.2.2.2.2
  have hl := h.2.2.2.2.2.len
  have p1 : pL (tP t') = pL (tP t) := by
    show gL _ t'.2.2.2.2.2.2 0 = gL _ t.2.2.2.2.2.2 0
    rw [a6]
    exact gL_congr _ _ (fun i _ hi => by have := a5 i (by have : t.2.2.2.2.2.2 ≤ 6 := hm; omega); simp only [pE]; rw [this.1, this.2])
  have p2 : pL (vP v') = pL (vP v) := by
    show gL _ v'.2.2.2.2.2.2 0 = gL _ v.2.2.2.2.2.2 0
    rw [b6]
    exact gL_congr _ _ (fun i _ hi => by have := b5 i (by have h1 : t.2.2.2.2.2.2 ≤ 6 := hm; have h2 : t.2.2.2.2.2.2 = v.2.2.2.2.2.2 := hl; omega); simp only [pE]; rw [this.1, this.2])
  refine ⟨fun j hj => ?_, fun j hj => ?_, fun j hj => ?_, fun j hj => ?_, ⟨fun j hj => ?_, fun j hj => ?_, fun j hj => ?_⟩, ?_, ?_, ?_, ?_⟩
  · rw [b1 j hj, a1 j hj, a3 j hj]; exact h.1 j hj
  · rw [a1 j hj, b2 j hj]; exact h.2.1 j hj
  · rw [a2 j hj, b3 j hj]; exact h.2.2.1 j hj
  · rw [a4 j hj, b4 j hj]; exact h.2.2.2.1 j hj
  · rw [a1 j hj]; exact h.2.2.2.2.1.1 j hj
  · rw [a2 j hj]; exact h.2.2.2.2.1.2.1 j hj
  · rw [a1 j hj, a2 j hj]; exact h.2.2.2.2.1.2.2 j hj
  · rw [p1, p2]; exact h.2.2.2.2.2.1
  · rw [p1]; exact h.2.2.2.2.2.2.1
  · rw [p1]; exact h.2.2.2.2.2.2.2.1
  · show t'.2.2.2.2.2.2 ≤ 6
    rw [a6]; exact hm
section ROP
variable {t : fT} {v : sT}
theorem rS.put (h : rS t v) {i n w : Nat} (hi : i < 10) (hn1 : 1 ≤ n) (hn : n ≤ 9999) (hw1 : 1 ≤ w) (hw : w ≤ 16) : rS (fPut t i n w) (vAd v i (nI n) (nI w)) := by
  refine ⟨fun j hj => ?_, fun j hj => ?_, fun j hj => ?_, fun j hj => ?_, ⟨fun j hj => ?_, fun j hj => ?_, fun j hj => ?_⟩, h.2.2.2.2.2⟩
  · show upd v.1 i 2 j = (if dUp t.1 i n j = 0 then 0 else if dUp t.2.2.1 i true j then 2 else 1)
    by_cases q : j = i
    · simp [upd, dUp, q, show ¬ n = 0 by omega]
    · simp only [upd, dUp, if_neg q]; exact h.1 j hj
  · show ¬ dUp t.1 i n j = 0 → upd v.2.1 i (nI n) j = nI (dUp t.1 i n j)
    by_cases q : j = i
    · simp [upd, dUp, q]
    · simp only [upd, dUp, if_neg q]; exact h.2.1 j hj
  · show upd v.2.2.1 i (nI w) j = nI (dUp t.2.1 i w j)
    by_cases q : j = i
    · simp [upd, dUp, q]
    · simp only [upd, dUp, if_neg q]; exact h.2.2.1 j hj
  · show vp_updL v.2.2.2.1 i 0 j = vp_updL t.2.2.2.1 i 0 j
    by_cases q : j = i
    · simp [vp_updL, q]
    · simp only [vp_updL, if_neg q]; exact h.2.2.2.1 j hj
  · show dUp t.1 i n j ≤ 9999
    by_cases q : j = i
    · simp [dUp, q, hn]
    · simp only [dUp, if_neg q]; exact h.2.2.2.2.1.1 j hj
  · show dUp t.2.1 i w j ≤ 16
    by_cases q : j = i
    · simp [dUp, q, hw]
    · simp only [dUp, if_neg q]; exact h.2.2.2.2.1.2.1 j hj
  · show ¬ dUp t.1 i n j = 0 → 1 ≤ dUp t.2.1 i w j
    by_cases q : j = i
    · simp [dUp, q, hw1]
    · simp only [dUp, if_neg q]; exact h.2.2.2.2.1.2.2 j hj
theorem rS.rmv (h : rS t v) {i : Nat} (hi : i < 10) : rS (fRmv t i) (vRm v i) := by
  refine ⟨fun j hj => ?_, fun j hj => ?_, h.2.2.1, h.2.2.2.1, ⟨fun j hj => ?_, h.2.2.2.2.1.2.1, fun j hj => ?_⟩, h.2.2.2.2.2.keepS (s := nI i)⟩
  · show upd v.1 i 0 j = (if dUp t.1 i 0 j = 0 then 0 else if t.2.2.1 j then 2 else 1)
    by_cases q : j = i
    · simp [upd, dUp, q]
    · simp only [upd, dUp, if_neg q]; exact h.1 j hj
  · show ¬ dUp t.1 i 0 j = 0 → v.2.1 j = nI (dUp t.1 i 0 j)
    by_cases q : j = i
    · simp [dUp, q]
    · simp only [dUp, if_neg q]; exact h.2.1 j hj
  · show dUp t.1 i 0 j ≤ 9999
    by_cases q : j = i
    · simp [dUp, q]
    · simp only [dUp, if_neg q]; exact h.2.2.2.2.1.1 j hj
  · show ¬ dUp t.1 i 0 j = 0 → 1 ≤ t.2.1 j
    by_cases q : j = i
    · simp [dUp, q]
    · simp only [dUp, if_neg q]; exact h.2.2.2.2.1.2.2 j hj
theorem rS.swt (h : rS t v) {i w : Nat} (hi : i < 10) (hw1 : 1 ≤ w) (hw : w ≤ 16) : rS (fSwt t i w) (vSw v i (nI w)) := by
  refine ⟨h.1, h.2.1, fun j hj => ?_, h.2.2.2.1, ⟨h.2.2.2.2.1.1, fun j hj => ?_, fun j hj => ?_⟩, h.2.2.2.2.2⟩
  · show upd v.2.2.1 i (nI w) j = nI (dUp t.2.1 i w j)
    by_cases q : j = i
    · simp [upd, dUp, q]
    · simp only [upd, dUp, if_neg q]; exact h.2.2.1 j hj
  · show dUp t.2.1 i w j ≤ 16
    by_cases q : j = i
    · simp [dUp, q, hw]
    · simp only [dUp, if_neg q]; exact h.2.2.2.2.1.2.1 j hj
  · show ¬ t.1 j = 0 → 1 ≤ dUp t.2.1 i w j
    by_cases q : j = i
    · simp [dUp, q, hw1]
    · simp only [dUp, if_neg q]; exact h.2.2.2.2.1.2.2 j hj
theorem rS.sup (h : rS t v) {i : Nat} {b : Bool} (hi : i < 10) (h0 : ¬ t.1 i = 0) : rS (fSup t i b) (vSu v i (if b then 2 else 1)) := by
  refine ⟨fun j hj => ?_, h.2.1, h.2.2.1, h.2.2.2.1, h.2.2.2.2.1, h.2.2.2.2.2⟩
  show upd v.1 i (if b then 2 else 1) j = (if t.1 j = 0 then 0 else if dUp t.2.2.1 i b j then 2 else 1)
  by_cases q : j = i
  · subst q
    simp [upd, dUp, h0]
  · simp only [upd, dUp, if_neg q]; exact h.1 j hj
theorem rS.ald (h : rS t v) {s n : Int32} (hs : s = -1 ∨ ∃ i, i < 10 ∧ ¬ t.1 i = 0 ∧ s = nI i) : rS (fAld t s n) (vLd v s n) := by
  rcases hs with rfl | ⟨i, hi, h0, rfl⟩
  · have e1 : fHs (cS t).1 (-1) = false := by
      have : fNm (-1) = false := by decide
      simp [fHs, this]
    have : fAld t (-1) n = t := by unfold fAld; rw [e1]; rfl
    rw [this]
    exact h
  · have e1 : fHs (cS t).1 (nI i) = true := by rw [h.fhs hi]; exact decide_eq_true h0
    unfold fAld vLd
    rw [e1, if_neg (nI_m1 (by omega)), cl10 hi]
    refine ⟨h.1, h.2.1, h.2.2.1, fun j hj => ?_, h.2.2.2.2.1, h.2.2.2.2.2⟩
    show vp_updL v.2.2.2.1 i (v.2.2.2.1 i + n.toInt64) j = vp_updL t.2.2.2.1 i (t.2.2.2.1 i + n.toInt64) j
    rw [h.2.2.2.1 i hi]
    by_cases q : j = i
    · simp [vp_updL, q]
    · simp only [vp_updL, if_neg q]; exact h.2.2.2.1 j hj
theorem rS.clr (h : rS t v) : rS (fClr t) (vClr v) := by
  refine ⟨fun j hj => ?_, fun j hj => ?_, h.2.2.1, h.2.2.2.1, ⟨fun j hj => ?_, h.2.2.2.2.1.2.1, fun j hj => ?_⟩, ?_, ?_, ?_, Nat.zero_le _⟩
  · show fFl 10 (fun _ => 0) v.1 j = (if fFl 10 (fun _ => 0) t.1 j = 0 then 0 else if t.2.2.1 j then 2 else 1)
    simp [fFl, hj]
  · show ¬ fFl 10 (fun _ => 0) t.1 j = 0 → _
    simp [fFl, hj]
  · show fFl 10 (fun _ => 0) t.1 j ≤ 9999
    simp [fFl, hj]
  · show ¬ fFl 10 (fun _ => 0) t.1 j = 0 → _
    simp [fFl, hj]
  · exact List.Perm.refl _
  · exact List.Pairwise.nil
  · intro x hx; exact absurd hx List.not_mem_nil
theorem rS.pin (h : rS t v) {p p' : pT} (hp : rP p p') : rS (fPin t p) (vPn v p'.1 p'.2.1 p'.2.2) := ⟨h.1, h.2.1, h.2.2.1, h.2.2.2.1, h.2.2.2.2.1, hp⟩
end ROP
/-! ===== what can be undone ===== -/
def hS (y : hT) (i : Nat) : fT := match i with
  | 0 => y.2.1
  | 1 => y.2.2.1
  | 2 => y.2.2.2.1
  | _ => y.2.2.2.2
def qRow (z : Nat) (r : rT) (m : Nat) : sT := (fun j => r.1 (10 * z + j), fun j => r.2.1 (10 * z + j), fun j => r.2.2.1 (10 * z + j), fun j => r.2.2.2.1 (10 * z + j), fun j => r.2.2.2.2.2.1 (6 * z + j), fun j => r.2.2.2.2.2.2 (6 * z + j), m)
def rY (y : hT) (q : qT) : Prop := y.1 = q.1 ∧ y.1 ≤ 4 ∧ ∀ i, i < y.1 → rS (hS y i) (qRow (y.1 - 1 - i) q.2 (hS y i).2.2.2.2.2.2) ∧ q.2.2.2.2.2.1 (y.1 - 1 - i) = nI (hS y i).2.2.2.2.2.2
theorem fWr_in {α : Type} {b n j : Nat} {v f : Nat → α} (h : j < n) : fWr b n v f (b + j) = v j := by
  unfold fWr; rw [if_pos (by omega), Nat.add_sub_cancel_left]
theorem fWr_lo {α : Type} {b n j : Nat} {v f : Nat → α} (h : j < b) : fWr b n v f j = f j := by
  unfold fWr; rw [if_neg (by omega)]
section RY
variable {t : fT} {v : sT} {y : hT} {q : qT}
theorem sCN_rS {s t : fT} {v : sT} (h : rS s v) : rS (sCN s t) v := by
  refine rS_congr (t := s) (v := v) ?_ ?_ ?_ ?_ ?_ rfl (fun _ _ => rfl) (fun _ _ => rfl) (fun _ _ => rfl) (fun _ _ => rfl) (fun _ _ => ⟨rfl, rfl⟩) rfl h
  · intro j hj; show fFl 10 s.1 t.1 j = _; simp [fFl, hj]
  · intro j hj; show fFl 10 s.2.1 t.2.1 j = _; simp [fFl, hj]
  · intro j hj; show fFl 10 s.2.2.1 t.2.2.1 j = _; simp [fFl, hj]
  · intro j hj; show fFl 10 s.2.2.2.1 t.2.2.2.1 j = _; simp [fFl, hj]
  · intro j hj; show fFl 6 s.2.2.2.2.1 t.2.2.2.2.1 j = _ ∧ fFl 6 s.2.2.2.2.2.1 t.2.2.2.2.2.1 j = _; simp [fFl, hj]
/-- the row that is kept is v's -/
theorem qPu_row (h : rS t v) (z : Nat) (r : rT) : rS t (qRow z (qPu z v r) t.2.2.2.2.2.2) := by
  have hl : t.2.2.2.2.2.2 = v.2.2.2.2.2.2 := h.2.2.2.2.2.len
  refine rS_congr (t := t) (v := v) (fun _ _ => rfl) (fun _ _ => rfl) (fun _ _ => rfl) (fun _ _ => rfl) (fun _ _ => ⟨rfl, rfl⟩) rfl ?_ ?_ ?_ ?_ ?_ hl h
  · intro j hj; exact fWr_in hj
  · intro j hj; exact fWr_in hj
  · intro j hj; exact fWr_in hj
  · intro j hj; exact fWr_in hj
  · intro j hj; exact ⟨fWr_in hj, fWr_in hj⟩
/-- the rows below it are as they were -/
theorem qPu_low {s : fT} {z w m : Nat} {r : rT} (hw : w < z) (h : rS s (qRow w r m)) : rS s (qRow w (qPu z v r) m) := by
  refine rS_congr (t := s) (v := qRow w r m) (fun _ _ => rfl) (fun _ _ => rfl) (fun _ _ => rfl) (fun _ _ => rfl) (fun _ _ => ⟨rfl, rfl⟩) rfl ?_ ?_ ?_ ?_ ?_ rfl h
  · intro j hj; exact fWr_lo (by omega)
  · intro j hj; exact fWr_lo (by omega)
  · intro j hj; exact fWr_lo (by omega)
  · intro j hj; exact fWr_lo (by omega)
  · intro j hj; exact ⟨fWr_lo (by omega), fWr_lo (by omega)⟩
theorem qSh_row {s : fT} {w m : Nat} {r : rT} (hw : w < 3) (h : rS s (qRow (w + 1) r m)) : rS s (qRow w (qSh r) m) := by
  refine rS_congr (t := s) (v := qRow (w + 1) r m) (fun _ _ => rfl) (fun _ _ => rfl) (fun _ _ => rfl) (fun _ _ => rfl) (fun _ _ => ⟨rfl, rfl⟩) rfl ?_ ?_ ?_ ?_ ?_ rfl h
  · intro j hj
    show fFl 30 (fun t => r.1 (10 + t)) r.1 (10 * w + j) = r.1 (10 * (w + 1) + j)
    simp only [fFl, show 10 * w + j < 30 by omega, if_true]; rw [show 10 + (10 * w + j) = 10 * (w + 1) + j by omega]
  · intro j hj
    show fFl 30 (fun t => r.2.1 (10 + t)) r.2.1 (10 * w + j) = r.2.1 (10 * (w + 1) + j)
    simp only [fFl, show 10 * w + j < 30 by omega, if_true]; rw [show 10 + (10 * w + j) = 10 * (w + 1) + j by omega]
  · intro j hj
    show fFl 30 (fun t => r.2.2.1 (10 + t)) r.2.2.1 (10 * w + j) = r.2.2.1 (10 * (w + 1) + j)
    simp only [fFl, show 10 * w + j < 30 by omega, if_true]; rw [show 10 + (10 * w + j) = 10 * (w + 1) + j by omega]
  · intro j hj
    show fFl 30 (fun t => r.2.2.2.1 (10 + t)) r.2.2.2.1 (10 * w + j) = r.2.2.2.1 (10 * (w + 1) + j)
    simp only [fFl, show 10 * w + j < 30 by omega, if_true]; rw [show 10 + (10 * w + j) = 10 * (w + 1) + j by omega]
  · intro j hj
    show fFl 18 (fun t => r.2.2.2.2.2.1 (6 + t)) r.2.2.2.2.2.1 (6 * w + j) = r.2.2.2.2.2.1 (6 * (w + 1) + j) ∧ fFl 18 (fun t => r.2.2.2.2.2.2 (6 + t)) r.2.2.2.2.2.2 (6 * w + j) = r.2.2.2.2.2.2 (6 * (w + 1) + j)
    simp only [fFl, show 6 * w + j < 18 by omega, if_true]
    rw [show 6 + (6 * w + j) = 6 * (w + 1) + j by omega]
    exact ⟨rfl, rfl⟩
theorem rY.rem (h : rY y q) (hs : rS t v) : rY (yRm t y) (qKp v q) := by
  obtain ⟨h1, h2, h3⟩ := h
  have hl : t.2.2.2.2.2.2 = v.2.2.2.2.2.2 := hs.2.2.2.2.2.len
  rcases Nat.lt_or_ge q.1 4 with q4 | q4
  · have e1 : qKp v q = (q.1 + 1, qPu q.1 v q.2) := by unfold qKp; rw [if_pos q4]
    have e2 : (yRm t y).1 = q.1 + 1 := by show (if y.1 < 4 then y.1 + 1 else 4) = _; rw [if_pos (by omega), h1]
    rw [e1]
    refine ⟨e2, by rw [e2]; omega, fun i hi => ?_⟩
    rw [e2] at hi ⊢
    rcases Nat.eq_zero_or_pos i with q0 | q0
    · subst q0
      rw [show q.1 + 1 - 1 - 0 = q.1 by omega]
      refine ⟨sCN_rS (qPu_row hs q.1 q.2), ?_⟩
      show upd q.2.2.2.2.2.1 q.1 (nI v.2.2.2.2.2.2) q.1 = nI t.2.2.2.2.2.2
      rw [hl]; simp [upd]
    · obtain ⟨w, rfl⟩ : ∃ w, i = w + 1 := ⟨i - 1, by omega⟩
      have hy : hS (yRm t y) (w + 1) = hS y w := by
        match w, (show w < 3 by omega) with
        | 0, _ => rfl
        | 1, _ => rfl
        | 2, _ => rfl
      obtain ⟨g1, g2⟩ := h3 w (by omega)
      rw [hy, show q.1 + 1 - 1 - (w + 1) = y.1 - 1 - w by omega]
      refine ⟨qPu_low (by omega) g1, ?_⟩
      show upd q.2.2.2.2.2.1 q.1 (nI v.2.2.2.2.2.2) (y.1 - 1 - w) = _
      rw [← g2]
      simp [upd, show ¬ y.1 - 1 - w = q.1 by omega]
  · have hq4 : q.1 = 4 := by omega
    have e1 : qKp v q = (4, qPu 3 v (qSh q.2)) := by unfold qKp; rw [if_neg (by omega)]
    have e2 : (yRm t y).1 = 4 := by show (if y.1 < 4 then y.1 + 1 else 4) = _; rw [if_neg (by omega)]
    rw [e1]
    refine ⟨e2, by rw [e2]; omega, fun i hi => ?_⟩
    rw [e2] at hi ⊢
    rcases Nat.eq_zero_or_pos i with q0 | q0
    · subst q0
      refine ⟨sCN_rS (qPu_row hs 3 (qSh q.2)), ?_⟩
      show upd (qSh q.2).2.2.2.2.1 3 (nI v.2.2.2.2.2.2) 3 = nI t.2.2.2.2.2.2
      rw [hl]; simp [upd]
    · obtain ⟨w, rfl⟩ : ∃ w, i = w + 1 := ⟨i - 1, by omega⟩
      have hy : hS (yRm t y) (w + 1) = hS y w := by
        match w, (show w < 3 by omega) with
        | 0, _ => rfl
        | 1, _ => rfl
        | 2, _ => rfl
      obtain ⟨g1, g2⟩ := h3 w (by omega)
      rw [hy, show 4 - 1 - (w + 1) = 2 - w by omega]
      rw [show y.1 - 1 - w = 2 - w + 1 by omega] at g1 g2
      refine ⟨qPu_low (by omega) (qSh_row (by omega) g1), ?_⟩
      show upd (fFl 3 (fun t => q.2.2.2.2.2.1 (t + 1)) q.2.2.2.2.2.1) 3 (nI v.2.2.2.2.2.2) (2 - w) = _
      rw [← g2]
      simp [upd, fFl, show ¬ 2 - w = 3 by omega, show 2 - w < 3 by omega]
theorem rY.back (h : rY y q) (h0 : 0 < y.1) : rY (yBk y) (y.1 - 1, q.2) := by
  obtain ⟨h1, h2, h3⟩ := h
  refine ⟨rfl, by show y.1 - 1 ≤ 4; omega, fun i hi => ?_⟩
  have hi' : i < y.1 - 1 := hi
  have hy : hS (yBk y) i = hS y (i + 1) := by
    match i, (show i < 3 by omega) with
    | 0, _ => rfl
    | 1, _ => rfl
    | 2, _ => rfl
  obtain ⟨g1, g2⟩ := h3 (i + 1) (by omega)
  show rS (hS (yBk y) i) (qRow (y.1 - 1 - 1 - i) q.2 _) ∧ q.2.2.2.2.2.1 (y.1 - 1 - 1 - i) = _
  rw [hy, show y.1 - 1 - 1 - i = y.1 - 1 - (i + 1) by omega]
  exact ⟨g1, g2⟩
theorem vRow_rS {s t : fT} {z m : Nat} {r : rT} {v : sT} (h : rS s (qRow z r m)) : rS (sCN s t) (vRow z m r v) := by
  refine sCN_rS (rS_congr (t := s) (v := qRow z r m) (fun _ _ => rfl) (fun _ _ => rfl) (fun _ _ => rfl) (fun _ _ => rfl) (fun _ _ => ⟨rfl, rfl⟩) rfl ?_ ?_ ?_ ?_ ?_ rfl h)
  · intro j hj; show fFl 10 (fun t => r.1 (10 * z + t)) v.1 j = r.1 (10 * z + j); simp [fFl, hj]
  · intro j hj; show fFl 10 (fun t => r.2.1 (10 * z + t)) v.2.1 j = r.2.1 (10 * z + j); simp [fFl, hj]
  · intro j hj; show fFl 10 (fun t => r.2.2.1 (10 * z + t)) v.2.2.1 j = r.2.2.1 (10 * z + j); simp [fFl, hj]
  · intro j hj; show fFl 10 (fun t => r.2.2.2.1 (10 * z + t)) v.2.2.2.1 j = r.2.2.2.1 (10 * z + j); simp [fFl, hj]
  · intro j hj; show fFl 6 (fun t => r.2.2.2.2.2.1 (6 * z + t)) v.2.2.2.2.1 j = r.2.2.2.2.2.1 (6 * z + j) ∧ fFl 6 (fun t => r.2.2.2.2.2.2 (6 * z + t)) v.2.2.2.2.2.1 j = r.2.2.2.2.2.2 (6 * z + j); simp [fFl, hj]
end RY
