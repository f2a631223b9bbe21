/-! written by wip/whole/pp.py out of wip/whole/src/44.rd.lean -/

/-! ===== what the class answers is what the reference answers ===== -/
def sW (on : Nat → Bool) (W : Nat → Nat) : Nat → Nat
  | 0 => 0
  | n + 1 => sW on W n + (if on n then W n else 0)
theorem sW_le {on : Nat → Bool} {W : Nat → Nat} (hW : ∀ j, j < 10 → W j ≤ 16) : ∀ n, n ≤ 10 → sW on W n ≤ 16 * n
  | 0, _ => Nat.le_refl _
  | n + 1, h => by
    have h1 := sW_le hW (on := on) n (by omega)
    have h2 := hW n (by omega)
    show sW on W n + (if on n then W n else 0) ≤ _
    split <;> omega
theorem sW_ge {on : Nat → Bool} {W : Nat → Nat} {s : Nat} (ho : on s = true) : ∀ n, s < n → W s ≤ sW on W n
  | 0, h => absurd h (Nat.not_lt_zero s)
  | n + 1, h => by
    show W s ≤ sW on W n + (if on n then W n else 0)
    rcases Nat.lt_or_ge s n with q | q
    · have := sW_ge (W := W) ho n q
      omega
    · obtain rfl : s = n := by omega
      rw [if_pos ho]; omega
theorem aLp_sW {on : Nat → Bool} {W : Nat → Nat} : ∀ (k j a : Nat), aLp (fun j c => if on j then c + nI (W j) else c) k j (nI a) = nI (a + (sW on W (j + k) - sW on W j)) ∧ sW on W j ≤ sW on W (j + k)
  | 0, j, a => by
    constructor
    · show nI a = _
      rw [Nat.add_zero, Nat.sub_self]; rfl
    · exact Nat.le_refl _
  | k + 1, j, a => by
    have hs : sW on W (j + 1) = sW on W j + (if on j then W j else 0) := rfl
    show aLp (fun j c => if on j then c + nI (W j) else c) k (j + 1) (if on j then nI a + nI (W j) else nI a) = _ ∧ _
    rw [show j + (k + 1) = j + 1 + k by omega]
    by_cases h : on j = true
    · rw [if_pos h] at hs ⊢
      rw [nI_add]
      obtain ⟨h1, h2⟩ := aLp_sW (on := on) (W := W) k (j + 1) (a + W j)
      refine ⟨h1.trans ?_, by omega⟩
      congr 1; omega
    · rw [if_neg h] at hs ⊢
      obtain ⟨h1, h2⟩ := aLp_sW (on := on) (W := W) k (j + 1) a
      refine ⟨h1.trans ?_, by omega⟩
      congr 1; omega
section RD
variable {t : fT} {v : sT} {b : bT} {u : uT}
theorem rS.ct (h : rS t v) : mCt v = fSz (cS t).1 := by
  unfold mCt fSz
  refine aLp_congr 10 (fun j a hj => ?_) 10 0 0 rfl
  rw [h.fhs hj]
  have := h.z hj
  by_cases q : t.1 j = 0
  · simp [q, this.mpr q]
  · simp [q, this]
theorem rS.uc (h : rS t v) : mUc v = fUc (cS t).1 (cS t).2.2.1 := by
  unfold mUc fUc
  refine aLp_congr 10 (fun j a hj => ?_) 10 0 0 rfl
  rw [h.fup hj]
  have := h.on hj
  by_cases q : cOn t j = true
  · rw [if_pos (this.mpr q), if_pos q]
  · rw [if_neg (fun z => q (this.mp z)), if_neg q]
theorem rS.ucN (h : rS t v) : fUc (cS t).1 (cS t).2.2.1 = nI (cN (cOn t) 10) := by
  rw [← aLp_cN0]
  unfold fUc
  exact aLp_congr 10 (fun j a hj => by rw [h.fup hj]) 10 0 0 rfl
theorem gRq_N {n : Int32} (h : gRq n = true) : 1 ≤ n.toInt ∧ n.toInt ≤ 1000000 := by
  unfold gRq at h
  rw [Bool.and_eq_true, decide_eq_true_eq, decide_eq_true_eq, Int32.lt_iff_toInt_lt, Int32.le_iff_toInt_le] at h
  have e1 : (1 : Int32).toInt = 1 := by decide
  have e2 : (1000000 : Int32).toInt = 1000000 := by decide
  omega
theorem rS.nm (h : rS t v) {n : Nat} (h1 : 1 ≤ n) (h2 : n ≤ 9999) : oI (mNm v (nI n)) = fFn (cS t).1 (nI n) := by
  unfold mNm fFn
  rw [aFd_o]
  congr 1
  refine aFo_congr 10 0 (fun j _ hj => ?_)
  have hj' : j < 10 := by omega
  have hb := h.2.2.2.2.1.1 j hj'
  have e : ((cS t).1 j = nI n) ↔ t.1 j = n := nI_eq (by omega) (by omega)
  by_cases q : t.1 j = 0
  · have hz := (h.z hj').mpr q
    have hne : ¬ (cS t).1 j = nI n := fun z => by have := e.mp z; omega
    simp [hz, hne]
  · rw [h.2.1 j hj' q]
    have hz : ¬ v.1 j = 0 := fun z => q ((h.z hj').mp z)
    simp only [hz, not_false_iff, decide_true, Bool.true_and]
    rfl
theorem rS.fr (h : rS t v) : aFo (fun j => decide (v.1 j = 0)) 10 0 = aFo (fun j => decide ((cS t).1 j = 0)) 10 0 := by
  refine aFo_congr 10 0 (fun j _ hj => ?_)
  have hj' : j < 10 := by omega
  have e1 := h.z hj'
  have e2 : ((cS t).1 j = 0) ↔ t.1 j = 0 := nI_z (h.2.2.2.2.1.1 j hj')
  simp only [e1, e2]
theorem rS.full (h : rS t v) : mCt v = 10 ↔ fFn (cS t).1 0 = -1 := by
  have e : mCt v = nI (cN (fun j => decide (¬ v.1 j = 0)) 10) := by
    rw [← aLp_cN0]
    unfold mCt
    refine aLp_congr 10 (fun j a hj => ?_) 10 0 0 rfl
    by_cases q : v.1 j = 0
    · simp [q]
    · simp [q]
  have hle := cN_le (fun j => decide (¬ v.1 j = 0)) 10
  unfold fFn
  rw [aFd_o, ← h.fr, e]
  constructor
  · intro z
    have hz : cN (fun j => decide (¬ v.1 j = 0)) 10 = 10 := (nI_eq (b := 10) (by omega) (by decide)).mp z
    cases hf : aFo (fun j => decide (v.1 j = 0)) 10 0 with
    | none => rfl
    | some i =>
      obtain ⟨-, h2, h3⟩ := aFo_some hf
      have := cN_lt (P := fun j => decide (¬ v.1 j = 0)) (n := 10) ⟨i, by omega, by have : v.1 i = 0 := of_decide_eq_true h3; simp [this]⟩
      omega
  · intro z
    cases hf : aFo (fun j => decide (v.1 j = 0)) 10 0 with
    | some i =>
      rw [hf] at z
      have := (aFo_some hf).2.1
      exact absurd z (nI_m1 (by omega))
    | none =>
      have := cN_all (P := fun j => decide (¬ v.1 j = 0)) (n := 10) (fun j hj => by have := aFo_none hf j (Nat.zero_le _) (by omega); simpa using this)
      rw [this]; rfl
theorem rU.ob (h : rU t b u) (s : Int32) : sOb u.2.1 u.1 s = sOb b.2.1 b.1 s := by
  unfold sOb
  rw [h.1]
  exact aLp_congr b.1 (fun j a hj => by rw [h.2.2.1 j hj]) b.1 0 0 (by omega)
/-! shares -/
theorem rS.ws (h : rS t v) : mWs v = nI (sW (cOn t) t.2.1 10) ∧ fWs (cS t).1 (cS t).2.1 (cS t).2.2.1 = nI (sW (cOn t) t.2.1 10) := by
  have e := (aLp_sW (on := cOn t) (W := t.2.1) 10 0 0).1
  rw [Nat.zero_add, Nat.zero_add] at e
  have e' : aLp (fun j c => if cOn t j then c + nI (t.2.1 j) else c) 10 0 (0 : Int32) = nI (sW (cOn t) t.2.1 10) := e
  rw [← e']
  constructor
  · unfold mWs
    refine aLp_congr 10 (fun j a hj => ?_) 10 0 0 rfl
    rw [h.2.2.1 j hj]
    have := h.on hj
    by_cases q : cOn t j = true
    · rw [if_pos (this.mpr q), if_pos q]
    · rw [if_neg (fun z => q (this.mp z)), if_neg q]
  · unfold fWs
    refine aLp_congr 10 (fun j a hj => ?_) 10 0 0 rfl
    rw [h.fup hj]
    rfl
theorem rS.up_w (h : rS t v) {s : Nat} (hs : s < 10) (ho : cOn t s = true) : 1 ≤ t.2.1 s ∧ t.2.1 s ≤ 16 ∧ 1 ≤ sW (cOn t) t.2.1 10 ∧ sW (cOn t) t.2.1 10 ≤ 160 := by
  have h0 : ¬ t.1 s = 0 := by
    unfold cOn at ho
    rw [Bool.and_eq_true, decide_eq_true_eq] at ho
    exact ho.1
  have h1 := h.2.2.2.2.1.2.2 s hs h0
  have h2 := h.2.2.2.2.1.2.1 s hs
  have h3 := sW_ge (on := cOn t) (W := t.2.1) ho 10 hs
  have h4 := sW_le (on := cOn t) (W := t.2.1) h.2.2.2.2.1.2.1 10 (Nat.le_refl _)
  omega
theorem rS.sh_up (h : rS t v) {M s : Nat} (hM : M ∈ slP) (hs : s < 10) (ho : cOn t s = true) : fSh t M (nI s) = mId v M s ∧ shOk (mId v M s) = true := by
  obtain ⟨w1, w2, w3, w4⟩ := h.up_w hs ho
  have h0 : ¬ t.1 s = 0 := by
    unfold cOn at ho
    rw [Bool.and_eq_true, decide_eq_true_eq] at ho
    exact ho.1
  have e1 : mId v M s = FP.ddiv (FP.i2d (nI (M * t.2.1 s))) (FP.i2d (nI (sW (cOn t) t.2.1 10))) := by
    unfold mId
    rw [if_pos ((h.on hs).mpr ho), h.2.2.1 s hs, h.ws.1, pk_mul]
  refine ⟨?_, by rw [e1]; exact sh_ok hM w1 w2 w3 w4⟩
  rw [e1]
  unfold fSh
  rw [h.ws.2, h.fup hs, ho, decide_eq_false (nI_nle (by omega) (by omega))]
  show FP.ddiv (FP.i2d (nI M * fWt (cS t).1 (cS t).2.1 (nI s))) _ = _
  have : fWt (cS t).1 (cS t).2.1 (nI s) = nI (t.2.1 s) := by
    unfold fWt
    rw [h.fhs hs, decide_eq_true h0, cl10 hs]
    rfl
  rw [this, pk_mul]
theorem rS.sh_dn (h : rS t v) {M s : Nat} (hs : s < 10) (ho : cOn t s = false) : fSh t M (nI s) = FP.dconst0 ∧ mId v M s = FP.dconst0 := by
  constructor
  · unfold fSh
    rw [h.fup hs, ho]
    simp
  · unfold mId
    rw [if_neg (fun z => by have := (h.on hs).mp z; rw [ho] at this; cases this)]
theorem rS.sh (h : rS t v) {M s : Nat} (hM : M ∈ slP) (hs : s < 10) : fSh t M (nI s) = mId v M s ∧ vf_n64 (mId v M s) := by
  cases ho : cOn t s with
  | true => exact ⟨(h.sh_up hM hs ho).1, shOk_n (h.sh_up hM hs ho).2⟩
  | false =>
    obtain ⟨e1, e2⟩ := h.sh_dn (M := M) hs ho
    rw [e1, e2]
    exact ⟨rfl, d0_n⟩
theorem rel_im (h : rS t v) (hu : rU t b u) : (∀ j a, j < 10 → fIm t b j a = mIm v u j a) ∧ (∀ j, j < 10 → vf_n64 (fSh t b.1 (nI j))) ∧ (∀ j, j < 10 → 0 < Op.cmpValue (FP.dcmp (fSh t b.1 (nI j)) FP.dconst0) .l → vf_n64 (FP.ddiv (FP.i2d (sOb b.2.1 b.1 (nI j))) (fSh t b.1 (nI j)))) ∧ (∀ s, s < 10 → v.1 s = 2 → vf_n64 (mIt v u s)) := by
  have hM := hu.2.1
  refine ⟨fun j a hj => ?_, fun j hj => ?_, fun j hj hg => ?_, fun s hs h2 => ?_⟩
  · unfold fIm mIm mIt
    rw [hu.ob, hu.1]
    cases ho : cOn t j with
    | true =>
      obtain ⟨e1, e2⟩ := h.sh_up hM hj ho
      rw [e1, if_pos (shOk_gt e2), if_pos ((h.on hj).mpr ho)]
    | false =>
      obtain ⟨e1, e2⟩ := h.sh_dn (M := b.1) hj ho
      rw [e1, if_neg d0_0, if_neg (fun z => by have := (h.on hj).mp z; rw [ho] at this; cases this)]
  · rw [(h.sh hM hj).1]; exact (h.sh hM hj).2
  · cases ho : cOn t j with
    | true =>
      obtain ⟨e1, e2⟩ := h.sh_up hM hj ho
      rw [e1]
      exact shOk_q e2 _
    | false =>
      rw [(h.sh_dn (M := b.1) hj ho).1] at hg
      exact absurd hg d0_0
  · unfold mIt
    rw [hu.1]
    exact shOk_q (h.sh_up hM hs ((h.on hs).mp h2)).2 _
theorem im_n (h : ∀ s, s < 10 → v.1 s = 2 → vf_n64 (mIt v u s)) : ∀ (k j : Nat) (a : UInt64), j + k = 10 → vf_n64 a → vf_n64 (aLp (mIm v u) k j a)
  | 0, _, _, _, ha => ha
  | k + 1, j, a, hj, ha => by
    show vf_n64 (aLp (mIm v u) k (j + 1) (mIm v u j a))
    refine im_n h k (j + 1) _ (by omega) ?_
    unfold mIm
    split
    · rename_i h2
      split
      · exact h j (by omega) h2
      · exact ha
    · exact ha
/-! lookups -/
theorem rS.find (h : rS t v) (key : Int32) : (pKy t key = -1 ∧ mPo v key = none ∧ aFo (fun j => decide (t.2.2.2.2.1 j = key)) t.2.2.2.2.2.2 0 = none) ∨ ∃ i s, s < 10 ∧ pKy t key = nI s ∧ mPo v key = some i ∧ i < v.2.2.2.2.2.2 ∧ v.2.2.2.2.2.1 i = nI s := by
  rcases h.2.2.2.2.2.find key with ⟨h1, h2⟩ | ⟨i, j, h1, h2, h3, h4, h5⟩
  · refine Or.inl ⟨?_, h2, h1⟩
    unfold pKy pSv
    rw [h1]
  · have hmem : (pE t.2.2.2.2.1 t.2.2.2.2.2.1 i) ∈ pL (tP t) := (gL_mem _ _).mpr ⟨i, Nat.zero_le _, by rw [Nat.zero_add]; exact h3, rfl⟩
    obtain ⟨s, hs, hse⟩ := h.2.2.2.2.2.2.2.1 _ hmem
    have hse' : t.2.2.2.2.2.1 i = nI s := hse
    refine Or.inr ⟨j, s, hs, ?_, h2, h4, ?_⟩
    · unfold pKy pSv
      rw [h1]
      exact hse'
    · rw [← hse']; exact h5.symm
theorem rS.vpo (h : rS t v) : vPo v := by
  have hl : t.2.2.2.2.2.2 = v.2.2.2.2.2.2 := h.2.2.2.2.2.len
  have h6 : t.2.2.2.2.2.2 ≤ 6 := h.2.2.2.2.2.2.2.2
  refine ⟨by omega, fun j hj => ?_⟩
  have hmem : (pE v.2.2.2.2.1 v.2.2.2.2.2.1 j) ∈ pL (vP v) := (gL_mem _ _).mpr ⟨j, Nat.zero_le _, by rw [Nat.zero_add]; exact hj, rfl⟩
  exact h.2.2.2.2.2.2.2.1 _ (h.2.2.2.2.2.1.mem_iff.mpr hmem)
theorem rel_at (h : rS t v) (hu : rU t b u) (kk : Nat) : mAt v u kk = xLk t b kk ∧ (xLk t b kk = -1 ∨ ∃ i, i < 10 ∧ ¬ t.1 i = 0 ∧ xLk t b kk = nI i) := by
  have hb := slP_b hu.2.1
  have hky : sKy b.1 kk < b.1 := by unfold sKy; exact Nat.mod_lt _ (by omega)
  have htab : u.2.1 (sKy u.1 kk) = b.2.1 (sKy b.1 kk) := by rw [hu.1]; exact hu.2.2.1 _ hky
  have hon : ∀ s, s < 10 → cOn t s = true → ¬ t.1 s = 0 := fun s _ ho => by
    unfold cOn at ho
    rw [Bool.and_eq_true, decide_eq_true_eq] at ho
    exact ho.1
  have hsl : b.2.1 (sKy b.1 kk) = -1 ∨ ∃ i, i < 10 ∧ ¬ t.1 i = 0 ∧ b.2.1 (sKy b.1 kk) = nI i := by
    rcases hu.slot hky with z | ⟨s, h1, h2, h3⟩
    · exact Or.inl z
    · exact Or.inr ⟨s, h1, hon s h1 h2, h3⟩
  rcases h.find (nI kk) with ⟨h1, h2, -⟩ | ⟨i, s, h1, h2, h3, h4, h5⟩
  · have e : xLk t b kk = b.2.1 (sKy b.1 kk) := by unfold xLk; rw [h1, fUp_m1]; rfl
    rw [e]
    refine ⟨?_, hsl⟩
    unfold mAt
    rw [h2]
    dsimp only
    exact htab
  · have e : xLk t b kk = if cOn t s then nI s else b.2.1 (sKy b.1 kk) := by unfold xLk; rw [h2, h.fup h1]
    rw [e]
    unfold mAt
    rw [h3]
    dsimp only
    rw [h5, cl10 h1]
    by_cases q : cOn t s = true
    · rw [if_pos ((h.on h1).mpr q), if_pos q]
      exact ⟨rfl, Or.inr ⟨s, h1, hon s h1 q, rfl⟩⟩
    · rw [if_neg (fun z => q ((h.on h1).mp z)), if_neg q]
      exact ⟨htab, hsl⟩
/-! ranking -/
theorem rS.rk (h : rS t v) {i j : Nat} (hi : i < 10) (hj : j < 10) (oi : cOn t i = true) (oj : cOn t j = true) : fRk (cS t).1 (cS t).2.1 (cS t).2.2.2.1 (nI i) (nI j) = mRk v i j := by
  have hon : ∀ s, s < 10 → cOn t s = true → fHs (cS t).1 (nI s) = true := fun s hs ho => by
    rw [h.fhs hs]
    unfold cOn at ho
    rw [Bool.and_eq_true] at ho
    exact ho.1
  unfold fRk mRk fLd fWt
  rw [hon i hi oi, hon j hj oj, cl10 hi, cl10 hj, h.2.2.1 i hi, h.2.2.1 j hj, h.2.2.2.1 i hi, h.2.2.2.1 j hj]
  rfl
theorem rS.cb (h : rS t v) {s : Nat} (hs : s < 10) (ho : cOn t s = true) : mCb v s = fCb (cS t).1 (cS t).2.1 (cS t).2.2.1 (cS t).2.2.2.1 (nI s) := by
  have key : ∀ (j : Nat) (a : Int32), j < 10 → (fun (j : Nat) (c : Int32) => if decide (v.1 j = 2) && mRk v j s then c + 1 else c) j a = (fun (j : Nat) (c : Int32) => if fUp (cS t).1 (cS t).2.2.1 (nI j) && fRk (cS t).1 (cS t).2.1 (cS t).2.2.2.1 (nI j) (nI s) then c + 1 else c) j a := by
    intro j a hj
    dsimp only
    rw [h.fup hj, show decide (v.1 j = 2) = cOn t j from h.mon hj]
    cases hoj : cOn t j with
    | false => rw [Bool.false_and, Bool.false_and]
    | true => rw [h.rk hj hs hoj ho]
  exact aLp_congr (σ := Int32) 10 key 10 0 0 (Nat.zero_add 10)
theorem rS.rd (h : rS t v) (p : Int32) : oI (mRd v p) = fRd (cS t).1 (cS t).2.1 (cS t).2.2.1 (cS t).2.2.2.1 p := by
  have key : ∀ s, 0 ≤ s → s < 0 + 10 → (fun s => decide (v.1 s = 2) && decide (mCb v s = p)) s = (fun j => fUp (cS t).1 (cS t).2.2.1 (nI j) && decide (fCb (cS t).1 (cS t).2.1 (cS t).2.2.1 (cS t).2.2.2.1 (nI j) = p)) s := by
    intro s _ hs
    have hs' : s < 10 := by omega
    dsimp only
    rw [h.fup hs', show decide (v.1 s = 2) = cOn t s from h.mon hs']
    cases ho : cOn t s with
    | false => rw [Bool.false_and, Bool.false_and]
    | true => rw [h.cb hs' ho]
  have e := aFo_congr 10 0 key
  unfold fRd
  rw [aFd_o, ← e]
  rfl
/-! pins -/
theorem rS.room (h : rS t v) (key : Int32) : gRm t key = !(mNr v key) := by
  have hl : t.2.2.2.2.2.2 = v.2.2.2.2.2.2 := h.2.2.2.2.2.len
  have h6 : t.2.2.2.2.2.2 ≤ 6 := h.2.2.2.2.2.2.2.2
  have e6 : (nI t.2.2.2.2.2.2 < 6) ↔ t.2.2.2.2.2.2 < 6 := nI_ltI (b := 6) (by omega) (by decide)
  unfold gRm mNr
  rcases h.find key with ⟨h1, h2, -⟩ | ⟨i, s, h1, h2, h3, h4, h5⟩
  · rw [h1, h2, ← hl]
    simp only [e6]
    by_cases q : t.2.2.2.2.2.2 = 6
    · simp [q]
    · have : t.2.2.2.2.2.2 < 6 := by omega
      simp [q, this]
  · rw [h2, h3]
    simp [nI_m1 (show s < 2 ^ 31 by omega)]
theorem rS.pinned (h : rS t v) {key : Int32} {s : Nat} (hs : s < 10) (hr : gRm t key = true) : rS (fPin t (pAp key (nI s) (pOt t key))) (mPt v key (nI s)) ∧ (mPt v key (nI s)).2.2.2.2.2.2 = (pAp key (nI s) (pOt t key)).2.2 := by
  have hc := pOt_lt h.ok.2.2 hr
  have hq : (pL (vP (mPt v key (nI s)))).Perm ((pL (vP v)).filter (fun e => decide (¬ e.1 = key)) ++ [(key, nI s)]) := by
    unfold mPt
    cases hf : mPo v key with
    | some i => exact pL_set (p' := vP v) h.2.2.2.2.2.pw' hf
    | none =>
      have e : (pL (vP v)).filter (fun e => decide (¬ e.1 = key)) = pL (vP v) := List.filter_eq_self.mpr (fun a ha => decide_eq_true (pFn (ps := v.2.2.2.2.2.1) hf a ha))
      rw [e]
      have e2 : pL (vP (vPn v (upd v.2.2.2.2.1 v.2.2.2.2.2.2 key) (upd v.2.2.2.2.2.1 v.2.2.2.2.2.2 (nI s)) (v.2.2.2.2.2.2 + 1))) = pL (vP v) ++ [(key, nI s)] := pL_ap key (nI s) (vP v)
      dsimp only
      rw [e2]
  have hp := rP.put (q := vP (mPt v key (nI s))) hs rfl hc h.2.2.2.2.2 hq
  have hsame : mPt v key (nI s) = vPn v (vP (mPt v key (nI s))).1 (vP (mPt v key (nI s))).2.1 (vP (mPt v key (nI s))).2.2 := by
    unfold mPt
    cases mPo v key <;> rfl
  refine ⟨?_, hp.len.symm⟩
  have := h.pin hp
  rw [← hsame] at this
  exact this
theorem rS.unp_no (h : rS t v) {key : Int32} (hf : mPo v key = none) : rS (fPin t (pOt t key)) v := by
  have e : (pL (vP v)).filter (fun e => decide (¬ e.1 = key)) = pL (vP v) := List.filter_eq_self.mpr (fun a ha => decide_eq_true (pFn (ps := v.2.2.2.2.2.1) hf a ha))
  have hp := h.2.2.2.2.2.drop (q := vP v) (key := key) (by rw [e])
  exact h.pin hp
theorem rS.unp_ok (h : rS t v) {key : Int32} {i : Nat} (hf : mPo v key = some i) : rS (fPin t (pOt t key)) (vPn v (upd v.2.2.2.2.1 i (v.2.2.2.2.1 (v.2.2.2.2.2.2 - 1))) (upd v.2.2.2.2.2.1 i (v.2.2.2.2.2.1 (v.2.2.2.2.2.2 - 1))) (v.2.2.2.2.2.2 - 1)) := by
  have hp := h.2.2.2.2.2.drop (q := (upd v.2.2.2.2.1 i (v.2.2.2.2.1 (v.2.2.2.2.2.2 - 1)), upd v.2.2.2.2.2.1 i (v.2.2.2.2.2.1 (v.2.2.2.2.2.2 - 1)), v.2.2.2.2.2.2 - 1)) (key := key) (pL_swap (p' := vP v) h.2.2.2.2.2.pw' hf)
  exact h.pin hp
end RD
