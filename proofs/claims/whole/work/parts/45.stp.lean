/-! written by wip/whole/pp.py out of wip/whole/src/45.stp.lean -/

/-! ===== one call of the law: class and reference go on alike ===== -/
def aR (B : Int) (t : fT) (b : bT) (k : kT) (y : hT) (v : sT) (u : uT) (km : kT) (q : qT) : Prop := rS t v ∧ rU t b u ∧ rK B k km ∧ rY y q ∧ rL B t y
def aNx (l : Launch) (X : aX) (nm : String) (hh : List (Nat × Nat × Nat × Nat)) (G : State → Array Value → List Frame → (Nat → Prop) → (Nat → Nat) → State → Prop) (kc ks i : Nat) (B : Int) : Prop := ∀ (t : fT) (b : bT) (k : kT) (y : hT) (f : Int32) (v : sT) (u : uT) (km : kT) (q : qT) (o : Nat → Int64) (d : Nat → UInt64), aR B t b k y v u km q → aJ l X (mLw nm hh) ([], G) kc ks 1581 (LV i) [] (aLw (aPT t b k y) (aMo f v u km q) (aLa 1 o) (aDa 1 d))
section STP
variable {l : Launch} {X : aX} {nm : String} {hh : List (Nat × Nat × Nat × Nat)} {G : State → Array Value → List Frame → (Nat → Prop) → (Nat → Nat) → State → Prop} {kc ks i : Nat} {B : Int} {t : fT} {b : bT} {k : kT} {y : hT} {f : Int32} {v : sT} {u : uT} {km : kT} {q : qT} {o : Nat → Int64} {d : Nat → UInt64}
theorem hxP : aHx (aPT t b k y) := ⟨rfl, rfl⟩
theorem lkP : aLk (aPT t b k y) (aMo f v u km q) := ⟨⟨rfl, rfl⟩, rfl, rfl⟩
theorem n10 {c : Int32} (h : c = 1) : c = 0 → False := fun z => by rw [h] at z; exact absurd z (by decide)
theorem o_put {x : Int64} : vp_updL o 0 x 0 = x := pk_uLs
theorem sl_of {M : Nat} (hM : M ≤ 61) {s : Int32} (h : sSl M s = true) : ∃ j, j < M ∧ s = nI j := by
  obtain ⟨j, hj, rfl⟩ := vp_in_of (sSl_in hM h) (by decide)
  refine ⟨j, ?_, rfl⟩
  simp only [sSl, Bool.and_eq_true, decide_eq_true_eq] at h
  rcases Nat.lt_or_ge j M with q | q
  · exact q
  · exact absurd (nI_le q (by omega)) h.2
theorem hs_of {s : Int32} (hs : rS t v) (h : fHs (cS t).1 s = true) : ∃ i, i < 10 ∧ s = nI i ∧ ¬ t.1 i = 0 := by
  obtain ⟨i, h1, h2, h3⟩ := fHs_N hs.2.2.2.2.1.1 h
  exact ⟨i, h1, h2, by omega⟩
theorem s_reset (hl : l.stackTraces = false) (hX : aXok X) (hi : i + 2 < X.2.2.2.1 1) (hL : X.2.2.2.1 1 ≤ 1536) (hkc : kc ≤ 600000) (hks : ks ≤ 7000000) (hB0 : 0 ≤ B) (hB : B + 1000000 < 2 ^ 59) (R : aR B t b k y v u km q) (nx : aNx l X nm hh G (kc + 8) (ks + 64) i (B + 1000000)) : aJ l X (mLw nm hh) ([], G) kc ks 168 (LV i) [] (aLw (aPT t b k y) (aMo f v u km q) (aLa 1 o) (aDa 1 d)) := by
  obtain ⟨hs, hu, hk, hy, hlb⟩ := R
  have hlw := hlb.weak (B' := B + 1000000) (by omega)
  have hkw := hk.weak (B' := B + 1000000) (by omega)
  have hMb := slP_b hu.2.1
  have hu1 := hu.1
  cases hg : gSc (X.2.2.2.2 1 (i + 1)) with
  | false =>
    exact w_reset hi hL hkc hks (c_L_reset_x _ (c_X6_reset_bad (l := l) (X := X) (t := t) (b := b) (k := k) (y := y) hl hX _ hg) hxP rfl) (c_X7_reset_bad (l := l) (X := X) (f := f) (v := v) (u := u) (k := km) (q := q) _ hg) c_X7_thrown (fun z => absurd z (by decide)) lkP lkP lkP rfl rfl (nx _ _ _ _ _ _ _ _ _ _ _ ⟨hs, hu, hkw, hy, hlw⟩)
  | true =>
    obtain ⟨m, hm, e⟩ := gSc_of hg
    obtain ⟨m5, m61⟩ := slP_b hm
    rw [e] at hg
    have hC := c_L_reset_ok (o := o) (nI m) (c_X6_reset_ok (l := l) (X := X) (t := t) (b := b) (k := k) (y := y) hX m m61 hg) hxP hxP rfl
    have hM := c_X7_reset_ok (l := l) (X := X) (f := f) (v := v) (u := u) (k := km) (q := q) m hm
    rw [← e] at hC hM
    refine w_reset hi hL hkc hks hC hM c_X7_thrown (fun _ => by rw [o_put, hu1]) lkP lkP lkP rfl rfl (nx _ _ _ _ _ _ _ _ _ _ _ ⟨hs.clr, ?_, ?_, ?_, hlw.1, fun a ha => absurd ha (Nat.not_lt_zero a)⟩)
    · refine ⟨rfl, hm, fun j hj => ?_, fun j hj => ?_, rfl, rfl⟩
      · have : j < 61 := by have : j < m := hj; omega
        show fFl 61 (fun _ => -1) u.2.1 j = fFl 61 (fun _ => -1) b.2.1 j
        simp [fFl, this]
      · have : j < 61 := by have : j < m := hj; omega
        show fFl 61 (fun _ => -1) b.2.1 j = mBd m (fClr t).1 (fClr t).2.1 (cOn (fClr t)) (fun _ => -1) j
        rcases mBd_ok (A := (fClr t).1) (W := (fClr t).2.1) (on := cOn (fClr t)) (T := fun _ => -1) hm j hj with z | ⟨s, h1, h2, h3⟩
        · rw [z]; simp [fFl, this]
        · have : (fClr t).1 s = 0 := by show fFl 10 (fun _ => 0) t.1 s = 0; simp [fFl, h1]
          unfold cOn at h2
          rw [this] at h2
          cases h2
    · exact ⟨List.Perm.refl _, fun a b' _ hb => absurd hb (Nat.not_lt_zero b'), fun a b' ha => absurd ha (Nat.not_lt_zero a), Nat.zero_le _, fun a ha => absurd ha (Nat.not_lt_zero a)⟩
    · exact ⟨rfl, Nat.zero_le _, fun a ha => absurd ha (Nat.not_lt_zero a)⟩
theorem s_serverAt (hl : l.stackTraces = false) (hX : aXok X) (hi : i + 2 < X.2.2.2.1 1) (hL : X.2.2.2.1 1 ≤ 1536) (hkc : kc ≤ 600000) (hks : ks ≤ 7000000) (hB0 : 0 ≤ B) (hB : B + 1000000 < 2 ^ 59) (R : aR B t b k y v u km q) (nx : aNx l X nm hh G (kc + 8) (ks + 64) i (B + 1000000)) : aJ l X (mLw nm hh) ([], G) kc ks 224 (LV i) [] (aLw (aPT t b k y) (aMo f v u km q) (aLa 1 o) (aDa 1 d)) := by
  obtain ⟨hs, hu, hk, hy, hlb⟩ := R
  have hlw := hlb.weak (B' := B + 1000000) (by omega)
  have hkw := hk.weak (B' := B + 1000000) (by omega)
  have hMb := slP_b hu.2.1
  have hu1 := hu.1
  have hC0 := c_X6_serverAt (l := l) (X := X) (t := t) (b := b) (k := k) (y := y) hl hu.bok (X.2.2.2.2 1 (i + 1))
  have hM := c_X7_serverAt (l := l) (X := X) (f := f) (v := v) (u := u) (k := km) (q := q) (by omega) (by omega) (X.2.2.2.2 1 (i + 1))
  rw [hu1] at hM
  cases hg : sSl b.1 (X.2.2.2.2 1 (i + 1)) with
  | false =>
    rw [hg] at hC0 hM
    exact w_serverAt hi hL hkc hks (c_L_serverAt_x _ (hC0) hxP rfl) (hM) c_X7_thrown (fun z => absurd z (by decide)) lkP lkP lkP rfl rfl (nx _ _ _ _ _ _ _ _ _ _ _ ⟨hs, hu, hkw, hy, hlw⟩)
  | true =>
    obtain ⟨j, hj, e⟩ := sl_of hMb.2 hg
    rw [hg] at hC0 hM
    exact w_serverAt hi hL hkc hks (c_L_serverAt_ok _ (hC0) hxP hxP rfl) (hM) c_X7_thrown (fun _ => by rw [o_put]; show _ = (u.2.1 (X.2.2.2.2 1 (i + 1)).toNatClampNeg).toInt64; rw [e, cl61 (by omega), hu.2.2.1 j hj]) lkP lkP lkP rfl rfl (nx _ _ _ _ _ _ _ _ _ _ _ ⟨hs, hu, hkw, hy, hlw⟩)
theorem s_disruption (hl : l.stackTraces = false) (hX : aXok X) (hi : i + 2 < X.2.2.2.1 1) (hL : X.2.2.2.1 1 ≤ 1536) (hkc : kc ≤ 600000) (hks : ks ≤ 7000000) (hB0 : 0 ≤ B) (hB : B + 1000000 < 2 ^ 59) (R : aR B t b k y v u km q) (nx : aNx l X nm hh G (kc + 8) (ks + 64) i (B + 1000000)) : aJ l X (mLw nm hh) ([], G) kc ks 280 (LV i) [] (aLw (aPT t b k y) (aMo f v u km q) (aLa 1 o) (aDa 1 d)) := by
  obtain ⟨hs, hu, hk, hy, hlb⟩ := R
  have hlw := hlb.weak (B' := B + 1000000) (by omega)
  have hkw := hk.weak (B' := B + 1000000) (by omega)
  have hMb := slP_b hu.2.1
  have hu1 := hu.1
  have hM := c_X7_disruption (l := l) (X := X) (f := f) (v := v) (u := u) (k := km) (q := q)
  rw [hu.2.2.2.2.1] at hM
  exact w_disruption hkc hks (c_X6_disruption (l := l) (X := X) (t := t) (b := b) (k := k) (y := y)) hM lkP lkP rfl rfl (nx _ _ _ _ _ _ _ _ _ _ _ ⟨hs, hu, hkw, hy, hlw⟩)
theorem s_forcedDisruption (hl : l.stackTraces = false) (hX : aXok X) (hi : i + 2 < X.2.2.2.1 1) (hL : X.2.2.2.1 1 ≤ 1536) (hkc : kc ≤ 600000) (hks : ks ≤ 7000000) (hB0 : 0 ≤ B) (hB : B + 1000000 < 2 ^ 59) (R : aR B t b k y v u km q) (nx : aNx l X nm hh G (kc + 8) (ks + 64) i (B + 1000000)) : aJ l X (mLw nm hh) ([], G) kc ks 293 (LV i) [] (aLw (aPT t b k y) (aMo f v u km q) (aLa 1 o) (aDa 1 d)) := by
  obtain ⟨hs, hu, hk, hy, hlb⟩ := R
  have hlw := hlb.weak (B' := B + 1000000) (by omega)
  have hkw := hk.weak (B' := B + 1000000) (by omega)
  have hMb := slP_b hu.2.1
  have hu1 := hu.1
  have hM := c_X7_forcedDisruption (l := l) (X := X) (f := f) (v := v) (u := u) (k := km) (q := q)
  rw [hu.2.2.2.2.2] at hM
  exact w_forcedDisruption hkc hks (c_X6_forcedDisruption (l := l) (X := X) (t := t) (b := b) (k := k) (y := y)) hM lkP lkP rfl rfl (nx _ _ _ _ _ _ _ _ _ _ _ ⟨hs, hu, hkw, hy, hlw⟩)
theorem s_imbalance (hl : l.stackTraces = false) (hX : aXok X) (hi : i + 2 < X.2.2.2.1 1) (hL : X.2.2.2.1 1 ≤ 1536) (hkc : kc ≤ 600000) (hks : ks ≤ 7000000) (hB0 : 0 ≤ B) (hB : B + 1000000 < 2 ^ 59) (R : aR B t b k y v u km q) (nx : aNx l X nm hh G (kc + 8) (ks + 64) i (B + 1000000)) : aJ l X (mLw nm hh) ([], G) kc ks 306 (LV i) [] (aLw (aPT t b k y) (aMo f v u km q) (aLa 1 o) (aDa 1 d)) := by
  obtain ⟨hs, hu, hk, hy, hlb⟩ := R
  have hlw := hlb.weak (B' := B + 1000000) (by omega)
  have hkw := hk.weak (B' := B + 1000000) (by omega)
  have hMb := slP_b hu.2.1
  have hu1 := hu.1
  obtain ⟨h1, h2, h3, h4⟩ := rel_im hs hu
  have hC := c_X6_imbalance (l := l) (X := X) (t := t) (b := b) (k := k) (y := y) hu.bok h2 h3
  have hM := c_X7_imbalance (l := l) (X := X) (f := f) (v := v) (u := u) (k := km) (q := q) (by omega) (fun s hs' _ => by rw [hu1]; exact (hs.sh hu.2.1 hs').2) h4
  have e : aLp (fIm t b) 10 0 FP.dconst0 = aLp (mIm v u) 10 0 FP.dconst0 := aLp_congr 10 h1 10 0 _ (Nat.zero_add 10)
  rw [e] at hC
  exact w_imbalance hkc hks (im_n h4 10 0 _ (Nat.zero_add 10) d0_n) hC hM lkP lkP rfl rfl (nx _ _ _ _ _ _ _ _ _ _ _ ⟨hs, hu, hkw, hy, hlw⟩)
theorem s_serverCount (hl : l.stackTraces = false) (hX : aXok X) (hi : i + 2 < X.2.2.2.1 1) (hL : X.2.2.2.1 1 ≤ 1536) (hkc : kc ≤ 600000) (hks : ks ≤ 7000000) (hB0 : 0 ≤ B) (hB : B + 1000000 < 2 ^ 59) (R : aR B t b k y v u km q) (nx : aNx l X nm hh G (kc + 8) (ks + 64) i (B + 1000000)) : aJ l X (mLw nm hh) ([], G) kc ks 629 (LV i) [] (aLw (aPT t b k y) (aMo f v u km q) (aLa 1 o) (aDa 1 d)) := by
  obtain ⟨hs, hu, hk, hy, hlb⟩ := R
  have hlw := hlb.weak (B' := B + 1000000) (by omega)
  have hkw := hk.weak (B' := B + 1000000) (by omega)
  have hMb := slP_b hu.2.1
  have hu1 := hu.1
  have hM := c_X7_serverCount (l := l) (X := X) (f := f) (v := v) (u := u) (k := km) (q := q)
  rw [hs.ct] at hM
  exact w_serverCount hkc hks (c_X6_serverCount (l := l) (X := X) (t := t) (b := b) (k := k) (y := y)) hM lkP lkP rfl rfl (nx _ _ _ _ _ _ _ _ _ _ _ ⟨hs, hu, hkw, hy, hlw⟩)
theorem s_trackedKeys (hl : l.stackTraces = false) (hX : aXok X) (hi : i + 2 < X.2.2.2.1 1) (hL : X.2.2.2.1 1 ≤ 1536) (hkc : kc ≤ 600000) (hks : ks ≤ 7000000) (hB0 : 0 ≤ B) (hB : B + 1000000 < 2 ^ 59) (R : aR B t b k y v u km q) (nx : aNx l X nm hh G (kc + 8) (ks + 64) i (B + 1000000)) : aJ l X (mLw nm hh) ([], G) kc ks 1358 (LV i) [] (aLw (aPT t b k y) (aMo f v u km q) (aLa 1 o) (aDa 1 d)) := by
  obtain ⟨hs, hu, hk, hy, hlb⟩ := R
  have hlw := hlb.weak (B' := B + 1000000) (by omega)
  have hkw := hk.weak (B' := B + 1000000) (by omega)
  have hMb := slP_b hu.2.1
  have hu1 := hu.1
  have hM := c_X7_trackedKeys (l := l) (X := X) (f := f) (v := v) (u := u) (k := km) (q := q)
  rw [← hk.len] at hM
  exact w_trackedKeys hkc hks (c_X6_trackedKeys (l := l) (X := X) (t := t) (b := b) (k := k) (y := y)) hM lkP lkP rfl rfl (nx _ _ _ _ _ _ _ _ _ _ _ ⟨hs, hu, hkw, hy, hlw⟩)
theorem s_addServer (hl : l.stackTraces = false) (hX : aXok X) (hi : i + 2 < X.2.2.2.1 1) (hL : X.2.2.2.1 1 ≤ 1536) (hkc : kc ≤ 600000) (hks : ks ≤ 7000000) (hB0 : 0 ≤ B) (hB : B + 1000000 < 2 ^ 59) (R : aR B t b k y v u km q) (nx : aNx l X nm hh G (kc + 8) (ks + 64) i (B + 1000000)) : aJ l X (mLw nm hh) ([], G) kc ks 347 (LV i) [] (aLw (aPT t b k y) (aMo f v u km q) (aLa 1 o) (aDa 1 d)) := by
  obtain ⟨hs, hu, hk, hy, hlb⟩ := R
  have hlw := hlb.weak (B' := B + 1000000) (by omega)
  have hkw := hk.weak (B' := B + 1000000) (by omega)
  have hMb := slP_b hu.2.1
  have hu1 := hu.1
  cases hg : (gNm (X.2.2.2.2 1 (i + 1)) && gWt (X.2.2.2.2 1 (i + 2))) with
  | false =>
    exact w_addServer hi hL hkc hks (c_L_addServer_x _ _ (c_X6_addServer_iae (l := l) (X := X) (t := t) (b := b) (k := k) (y := y) hl _ _ hg) hxP rfl) (c_X7_addServer_bad (l := l) (X := X) (f := f) (v := v) (u := u) (k := km) (q := q) _ _ hg) c_X7_thrown (fun z => absurd z (by decide)) lkP lkP lkP rfl rfl (nx _ _ _ _ _ _ _ _ _ _ _ ⟨hs, hu, hkw, hy, hlw⟩)
  | true =>
    have hg2 := hg
    rw [Bool.and_eq_true] at hg2
    obtain ⟨n, n1, n2, en⟩ := gNm_N hg2.1
    obtain ⟨w, w1, w2, ew⟩ := gWt_N hg2.2
    have hnm := hs.nm n1 n2
    by_cases hno : ¬ fFn (cS t).1 (X.2.2.2.2 1 (i + 1)) = -1 ∨ fFn (cS t).1 0 = -1
    · have ht : mTn v (X.2.2.2.2 1 (i + 1)) = true := by
        unfold mTn
        rw [Bool.or_eq_true, decide_eq_true_eq, decide_eq_true_eq, hs.full]
        rcases hno with z | z
        · left; rw [en, hnm, ← en]; exact z
        · right; exact z
      exact w_addServer hi hL hkc hks (c_L_addServer_y _ _ (c_X6_addServer_ise (l := l) (X := X) (t := t) (b := b) (k := k) (y := y) hl _ _ hg hno) hxP rfl) (c_X7_addServer_ise (l := l) (X := X) (f := f) (v := v) (u := u) (k := km) (q := q) _ _ hg ht) c_X7_thrown (fun z => absurd z (by decide)) lkP lkP lkP rfl rfl (nx _ _ _ _ _ _ _ _ _ _ _ ⟨hs, hu, hkw, hy, hlw⟩)
    · have hf1 : fFn (cS t).1 (X.2.2.2.2 1 (i + 1)) = -1 := Decidable.not_not.mp (fun z => hno (Or.inl z))
      have hf2 : ¬ fFn (cS t).1 0 = -1 := fun z => hno (Or.inr z)
      have ht : mTn v (X.2.2.2.2 1 (i + 1)) = false := by
        unfold mTn
        rw [Bool.or_eq_false_iff, decide_eq_false_iff_not, decide_eq_false_iff_not, hs.full]
        refine ⟨fun z => z ?_, hf2⟩
        rw [en, hnm, ← en]; exact hf1
      obtain ⟨s, hfs⟩ : ∃ s, aFo (fun j => decide ((cS t).1 j = 0)) 10 0 = some s := by
        cases hf : aFo (fun j => decide ((cS t).1 j = 0)) 10 0 with
        | some s => exact ⟨s, rfl⟩
        | none => exact absurd (by unfold fFn; rw [aFd_o, hf]; rfl) hf2
      have hs10 : s < 10 := by have := (aFo_some hfs).2.1; omega
      have hfn : fFn (cS t).1 0 = nI s := by unfold fFn; rw [aFd_o, hfs]; rfl
      have hR := hs.put (i := s) hs10 n1 n2 w1 w2
      rw [en, ew] at hg
      have hC := c_L_addServer_ok (o := o) (nI n) (nI w) (c_X6_addServer_ok (l := l) (X := X) (t := t) (b := b) (k := k) (y := y) hl hs.ok hu.bok hy.2.1 n w s hg n2 w2 hs10 (by rw [← en]; exact hf1) hfn) hxP hxP rfl
      have hM := c_X7_addServer_ok (l := l) (X := X) (f := f) (v := v) (u := u) (k := km) (q := q) (nI n) (nI w) s hg (by rw [← en]; exact ht) (by rw [← hy.1]; exact hy.2.1) (by rw [hs.fr]; exact hfs) (by rw [hu1]; exact hu.2.1) hu.uok (fPut t s n w).1 (fPut t s n w).2.1 hR.bN hR.2.2.2.2.1.1 hR.2.2.1 hR.2.2.2.2.1.2.1
      rw [← en, ← ew] at hC hM
      exact w_addServer hi hL hkc hks hC hM c_X7_thrown (fun _ => o_put) lkP lkP lkP rfl rfl (nx _ _ _ _ _ _ _ _ _ _ _ ⟨by rw [← en, ← ew] at hR; exact hR, by rw [← en, ← ew] at hR; exact hu.anew hR, hkw, hy.rem hs, hlb.rem hy.2.1 (by omega) ((hlw.1).put (by omega))⟩)
theorem s_removeServer (hl : l.stackTraces = false) (hX : aXok X) (hi : i + 2 < X.2.2.2.1 1) (hL : X.2.2.2.1 1 ≤ 1536) (hkc : kc ≤ 600000) (hks : ks ≤ 7000000) (hB0 : 0 ≤ B) (hB : B + 1000000 < 2 ^ 59) (R : aR B t b k y v u km q) (nx : aNx l X nm hh G (kc + 8) (ks + 64) i (B + 1000000)) : aJ l X (mLw nm hh) ([], G) kc ks 415 (LV i) [] (aLw (aPT t b k y) (aMo f v u km q) (aLa 1 o) (aDa 1 d)) := by
  obtain ⟨hs, hu, hk, hy, hlb⟩ := R
  have hlw := hlb.weak (B' := B + 1000000) (by omega)
  have hkw := hk.weak (B' := B + 1000000) (by omega)
  have hMb := slP_b hu.2.1
  have hu1 := hu.1
  cases hg : fHs (cS t).1 (X.2.2.2.2 1 (i + 1)) with
  | false =>
    have hgm : fHs v.1 (X.2.2.2.2 1 (i + 1)) = false := by rw [hs.hs]; exact hg
    exact w_removeServer hi hL hkc hks (c_L_removeServer_x _ (c_X6_removeServer_bad (l := l) (X := X) (t := t) (b := b) (k := k) (y := y) hl _ hg) hxP rfl) (c_X7_removeServer_bad (l := l) (X := X) (f := f) (v := v) (u := u) (k := km) (q := q) _ hgm) c_X7_thrown (fun z => absurd z (by decide)) lkP lkP lkP rfl rfl (nx _ _ _ _ _ _ _ _ _ _ _ ⟨hs, hu, hkw, hy, hlw⟩)
  | true =>
    obtain ⟨s, hs10, es, h0⟩ := hs_of hs hg
    have hgm : fHs v.1 (nI s) = true := by rw [hs.hs, ← es]; exact hg
    rw [es] at hg
    have hR := hs.rmv hs10
    have hC := c_L_removeServer_ok (o := o) (nI s) (c_X6_removeServer_ok (l := l) (X := X) (t := t) (b := b) (k := k) (y := y) hl hs.ok hu.bok hy.2.1 s hs10 hg) hxP hxP rfl
    have hM := c_X7_removeServer_ok (l := l) (X := X) (f := f) (v := v) (u := u) (k := km) (q := q) s hs10 hgm (by rw [← hy.1]; exact hy.2.1) hs.vpo.1 (by rw [hu1]; exact hu.2.1) hu.uok (fRmv t s).1 (fRmv t s).2.1 hR.bN hR.2.2.2.2.1.1 hR.2.2.1 hR.2.2.2.2.1.2.1
    rw [← es] at hC hM
    exact w_removeServer hi hL hkc hks hC hM c_X7_thrown (fun _ => by rw [o_put, hs.2.2.2.1 s hs10]) lkP lkP lkP rfl rfl (nx _ _ _ _ _ _ _ _ _ _ _ ⟨hR, hu.anew hR, hkw, hy.rem hs, hlb.rem hy.2.1 (by omega) hlw.1⟩)
theorem s_setWeight (hl : l.stackTraces = false) (hX : aXok X) (hi : i + 2 < X.2.2.2.1 1) (hL : X.2.2.2.1 1 ≤ 1536) (hkc : kc ≤ 600000) (hks : ks ≤ 7000000) (hB0 : 0 ≤ B) (hB : B + 1000000 < 2 ^ 59) (R : aR B t b k y v u km q) (nx : aNx l X nm hh G (kc + 8) (ks + 64) i (B + 1000000)) : aJ l X (mLw nm hh) ([], G) kc ks 470 (LV i) [] (aLw (aPT t b k y) (aMo f v u km q) (aLa 1 o) (aDa 1 d)) := by
  obtain ⟨hs, hu, hk, hy, hlb⟩ := R
  have hlw := hlb.weak (B' := B + 1000000) (by omega)
  have hkw := hk.weak (B' := B + 1000000) (by omega)
  have hMb := slP_b hu.2.1
  have hu1 := hu.1
  cases hg : (fHs (cS t).1 (X.2.2.2.2 1 (i + 1)) && gWt (X.2.2.2.2 1 (i + 2))) with
  | false =>
    have hgm : (fHs v.1 (X.2.2.2.2 1 (i + 1)) && gWt (X.2.2.2.2 1 (i + 2))) = false := by rw [hs.hs]; exact hg
    exact w_setWeight hi hL hkc hks (c_L_setWeight_x _ _ (c_X6_setWeight_bad (l := l) (X := X) (t := t) (b := b) (k := k) (y := y) hl _ _ hg) hxP rfl) (c_X7_setWeight_bad (l := l) (X := X) (f := f) (v := v) (u := u) (k := km) (q := q) _ _ hgm) c_X7_thrown (fun z => absurd z (by decide)) lkP lkP lkP rfl rfl (nx _ _ _ _ _ _ _ _ _ _ _ ⟨hs, hu, hkw, hy, hlw⟩)
  | true =>
    have hgm : (fHs v.1 (X.2.2.2.2 1 (i + 1)) && gWt (X.2.2.2.2 1 (i + 2))) = true := by rw [hs.hs]; exact hg
    rw [Bool.and_eq_true] at hg
    obtain ⟨s, hs10, es, h0⟩ := hs_of hs hg.1
    obtain ⟨w, w1, w2, ew⟩ := gWt_N hg.2
    rw [es, ew] at hg hgm
    have hR := hs.swt (i := s) hs10 w1 w2
    have hC := c_L_setWeight_ok (o := o) (nI s) (nI w) (c_X6_setWeight_ok (l := l) (X := X) (t := t) (b := b) (k := k) (y := y) hl hs.ok hu.bok hy.2.1 s w hs10 w2 hg.1 hg.2) hxP hxP rfl
    have hM := c_X7_setWeight_ok (l := l) (X := X) (f := f) (v := v) (u := u) (k := km) (q := q) s (nI w) hs10 hgm (by rw [← hy.1]; exact hy.2.1) (by rw [hu1]; exact hu.2.1) hu.uok (fSwt t s w).1 (fSwt t s w).2.1 hR.bN hR.2.2.2.2.1.1 hR.2.2.1 hR.2.2.2.2.1.2.1
    rw [← ew] at hC hM hR
    rw [← es] at hC hM
    exact w_setWeight hi hL hkc hks hC hM c_X7_thrown (fun _ => by rw [o_put, hs.2.2.1 s hs10]) lkP lkP lkP rfl rfl (nx _ _ _ _ _ _ _ _ _ _ _ ⟨hR, hu.anew hR, hkw, hy.rem hs, hlb.rem hy.2.1 (by omega) hlw.1⟩)
theorem s_setUp (hl : l.stackTraces = false) (hX : aXok X) (hi : i + 2 < X.2.2.2.1 1) (hL : X.2.2.2.1 1 ≤ 1536) (hkc : kc ≤ 600000) (hks : ks ≤ 7000000) (hB0 : 0 ≤ B) (hB : B + 1000000 < 2 ^ 59) (R : aR B t b k y v u km q) (nx : aNx l X nm hh G (kc + 8) (ks + 64) i (B + 1000000)) : aJ l X (mLw nm hh) ([], G) kc ks 538 (LV i) [] (aLw (aPT t b k y) (aMo f v u km q) (aLa 1 o) (aDa 1 d)) := by
  obtain ⟨hs, hu, hk, hy, hlb⟩ := R
  have hlw := hlb.weak (B' := B + 1000000) (by omega)
  have hkw := hk.weak (B' := B + 1000000) (by omega)
  have hMb := slP_b hu.2.1
  have hu1 := hu.1
  cases hg : fHs (cS t).1 (X.2.2.2.2 1 (i + 1)) with
  | false =>
    have hgm : fHs v.1 (X.2.2.2.2 1 (i + 1)) = false := by rw [hs.hs]; exact hg
    exact w_setUp hi hL hkc hks rfl (c_L_setUp_x _ _ (c_X6_setUp_bad (l := l) (X := X) (t := t) (b := b) (k := k) (y := y) hl _ _ hg) hxP rfl) (rb := false) (c_X7_setUp_bad (l := l) (X := X) (f := f) (v := v) (u := u) (k := km) (q := q) _ _ hgm) c_X7_thrown (fun z => absurd z (by decide)) lkP lkP lkP rfl rfl (nx _ _ _ _ _ _ _ _ _ _ _ ⟨hs, hu, hkw, hy, hlw⟩)
  | true =>
    obtain ⟨s, hs10, es, h0⟩ := hs_of hs hg
    have hgm : fHs v.1 (nI s) = true := by rw [hs.hs, ← es]; exact hg
    rw [es] at hg
    generalize hup : decide (¬ X.2.2.2.2 1 (i + 2) = 0) = up
    have hR := hs.sup (i := s) (b := up) hs10 h0
    have hC := c_L_setUp_ok (o := o) (nI s) up (c_X6_setUp_ok (l := l) (X := X) (t := t) (b := b) (k := k) (y := y) hl hs.ok hu.bok hy.2.1 s up hs10 hg) hxP hxP rfl
    have hM := c_X7_setUp_ok (l := l) (X := X) (f := f) (v := v) (u := u) (k := km) (q := q) s up hs10 hgm (by rw [← hy.1]; exact hy.2.1) (by rw [hu1]; exact hu.2.1) hu.uok (fSup t s up).1 (fSup t s up).2.1 hR.bN hR.2.2.2.2.1.1 hR.2.2.1 hR.2.2.2.2.1.2.1
    rw [← es] at hC hM
    exact w_setUp hi hL hkc hks hup.symm hC hM c_X7_thrown (fun _ => by rw [o_put, es, hs.fup hs10, ← hs.mon hs10]) lkP lkP lkP rfl rfl (nx _ _ _ _ _ _ _ _ _ _ _ ⟨hR, hu.anew hR, hkw, hy.rem hs, hlb.rem hy.2.1 (by omega) hlw.1⟩)
theorem s_serverNamed (hl : l.stackTraces = false) (hX : aXok X) (hi : i + 2 < X.2.2.2.1 1) (hL : X.2.2.2.1 1 ≤ 1536) (hkc : kc ≤ 600000) (hks : ks ≤ 7000000) (hB0 : 0 ≤ B) (hB : B + 1000000 < 2 ^ 59) (R : aR B t b k y v u km q) (nx : aNx l X nm hh G (kc + 8) (ks + 64) i (B + 1000000)) : aJ l X (mLw nm hh) ([], G) kc ks 642 (LV i) [] (aLw (aPT t b k y) (aMo f v u km q) (aLa 1 o) (aDa 1 d)) := by
  obtain ⟨hs, hu, hk, hy, hlb⟩ := R
  have hlw := hlb.weak (B' := B + 1000000) (by omega)
  have hkw := hk.weak (B' := B + 1000000) (by omega)
  have hMb := slP_b hu.2.1
  have hu1 := hu.1
  have hC0 := c_X6_serverNamed (l := l) (X := X) (t := t) (b := b) (k := k) (y := y) hl (X.2.2.2.2 1 (i + 1))
  have hM := c_X7_serverNamed (l := l) (X := X) (f := f) (v := v) (u := u) (k := km) (q := q) (X.2.2.2.2 1 (i + 1))
  cases hg : gNm (X.2.2.2.2 1 (i + 1)) with
  | false =>
    rw [hg] at hC0 hM
    exact w_serverNamed hi hL hkc hks (c_L_serverNamed_x _ (hC0) hxP rfl) (hM) c_X7_thrown (fun z => absurd z (by decide)) lkP lkP lkP rfl rfl (nx _ _ _ _ _ _ _ _ _ _ _ ⟨hs, hu, hkw, hy, hlw⟩)
  | true =>
    rw [hg] at hC0 hM
    obtain ⟨n, n1, n2, en⟩ := gNm_N hg
    exact w_serverNamed hi hL hkc hks (c_L_serverNamed_ok _ (hC0) hxP hxP rfl) (hM) c_X7_thrown (fun _ => by rw [o_put]; show _ = (oI (mNm v (X.2.2.2.2 1 (i + 1)))).toInt64; rw [en, hs.nm n1 n2]) lkP lkP lkP rfl rfl (nx _ _ _ _ _ _ _ _ _ _ _ ⟨hs, hu, hkw, hy, hlw⟩)
theorem s_preference (hl : l.stackTraces = false) (hX : aXok X) (hi : i + 2 < X.2.2.2.1 1) (hL : X.2.2.2.1 1 ≤ 1536) (hkc : kc ≤ 600000) (hks : ks ≤ 7000000) (hB0 : 0 ≤ B) (hB : B + 1000000 < 2 ^ 59) (R : aR B t b k y v u km q) (nx : aNx l X nm hh G (kc + 8) (ks + 64) i (B + 1000000)) : aJ l X (mLw nm hh) ([], G) kc ks 698 (LV i) [] (aLw (aPT t b k y) (aMo f v u km q) (aLa 1 o) (aDa 1 d)) := by
  obtain ⟨hs, hu, hk, hy, hlb⟩ := R
  have hlw := hlb.weak (B' := B + 1000000) (by omega)
  have hkw := hk.weak (B' := B + 1000000) (by omega)
  have hMb := slP_b hu.2.1
  have hu1 := hu.1
  have hC0 := c_X6_preference (l := l) (X := X) (t := t) (b := b) (k := k) (y := y) hl hs.ok hu.bok (X.2.2.2.2 1 (i + 1)) (X.2.2.2.2 1 (i + 2))
  cases hg : (fHs (cS t).1 (X.2.2.2.2 1 (i + 1)) && sSl b.1 (X.2.2.2.2 1 (i + 2))) with
  | false =>
    rw [hg] at hC0
    have hgm : (fHs v.1 (X.2.2.2.2 1 (i + 1)) && sSl u.1 (X.2.2.2.2 1 (i + 2))) = false := by rw [hs.hs, hu1]; exact hg
    exact w_preference hi hL hkc hks (c_L_preference_x _ _ (hC0) hxP rfl) (c_X7_preference_bad (l := l) (X := X) (f := f) (v := v) (u := u) (k := km) (q := q) (by omega) (by omega) _ _ hgm) c_X7_thrown (fun z => absurd z (by decide)) lkP lkP lkP rfl rfl (nx _ _ _ _ _ _ _ _ _ _ _ ⟨hs, hu, hkw, hy, hlw⟩)
  | true =>
    rw [hg] at hC0
    rw [Bool.and_eq_true] at hg
    obtain ⟨s, hs10, es, h0⟩ := hs_of hs hg.1
    obtain ⟨j, hj, ej⟩ := sl_of hMb.2 hg.2
    have hgm : fHs v.1 (nI s) = true := by rw [hs.hs, ← es]; exact hg.1
    have hM := c_X7_preference_ok (l := l) (X := X) (f := f) (v := v) (u := u) (k := km) (q := q) (by omega) (by omega) s j (t.1 s) hs10 (by omega) hgm (hs.2.1 s hs10 h0) (hs.2.2.2.2.1.1 s hs10)
    rw [← es, ← ej] at hM
    exact w_preference hi hL hkc hks (c_L_preference_ok _ _ (hC0) hxP hxP rfl) (hM) c_X7_thrown (fun _ => by rw [o_put, hu1, es, ej, cl10 hs10, cl61 (by omega)]) lkP lkP lkP rfl rfl (nx _ _ _ _ _ _ _ _ _ _ _ ⟨hs, hu, hkw, hy, hlw⟩)
theorem s_slotsOf (hl : l.stackTraces = false) (hX : aXok X) (hi : i + 2 < X.2.2.2.1 1) (hL : X.2.2.2.1 1 ≤ 1536) (hkc : kc ≤ 600000) (hks : ks ≤ 7000000) (hB0 : 0 ≤ B) (hB : B + 1000000 < 2 ^ 59) (R : aR B t b k y v u km q) (nx : aNx l X nm hh G (kc + 8) (ks + 64) i (B + 1000000)) : aJ l X (mLw nm hh) ([], G) kc ks 766 (LV i) [] (aLw (aPT t b k y) (aMo f v u km q) (aLa 1 o) (aDa 1 d)) := by
  obtain ⟨hs, hu, hk, hy, hlb⟩ := R
  have hlw := hlb.weak (B' := B + 1000000) (by omega)
  have hkw := hk.weak (B' := B + 1000000) (by omega)
  have hMb := slP_b hu.2.1
  have hu1 := hu.1
  have hC0 := c_X6_slotsOf (l := l) (X := X) (t := t) (b := b) (k := k) (y := y) hl hu.bok (X.2.2.2.2 1 (i + 1))
  have hM := c_X7_slotsOf (l := l) (X := X) (f := f) (v := v) (u := u) (k := km) (q := q) (by omega) (X.2.2.2.2 1 (i + 1))
  rw [hs.hs, hu.ob] at hM
  cases hg : fHs (cS t).1 (X.2.2.2.2 1 (i + 1)) with
  | false =>
    rw [hg] at hC0 hM
    exact w_slotsOf hi hL hkc hks (c_L_slotsOf_x _ (hC0) hxP rfl) (hM) c_X7_thrown (fun z => absurd z (by decide)) lkP lkP lkP rfl rfl (nx _ _ _ _ _ _ _ _ _ _ _ ⟨hs, hu, hkw, hy, hlw⟩)
  | true =>
    rw [hg] at hC0 hM
    exact w_slotsOf hi hL hkc hks (c_L_slotsOf_ok _ (hC0) hxP hxP rfl) (hM) c_X7_thrown (fun _ => o_put) lkP lkP lkP rfl rfl (nx _ _ _ _ _ _ _ _ _ _ _ ⟨hs, hu, hkw, hy, hlw⟩)
theorem s_idealShare (hl : l.stackTraces = false) (hX : aXok X) (hi : i + 2 < X.2.2.2.1 1) (hL : X.2.2.2.1 1 ≤ 1536) (hkc : kc ≤ 600000) (hks : ks ≤ 7000000) (hB0 : 0 ≤ B) (hB : B + 1000000 < 2 ^ 59) (R : aR B t b k y v u km q) (nx : aNx l X nm hh G (kc + 8) (ks + 64) i (B + 1000000)) : aJ l X (mLw nm hh) ([], G) kc ks 822 (LV i) [] (aLw (aPT t b k y) (aMo f v u km q) (aLa 1 o) (aDa 1 d)) := by
  obtain ⟨hs, hu, hk, hy, hlb⟩ := R
  have hlw := hlb.weak (B' := B + 1000000) (by omega)
  have hkw := hk.weak (B' := B + 1000000) (by omega)
  have hMb := slP_b hu.2.1
  have hu1 := hu.1
  have hn : ∀ s : Int32, fHs (cS t).1 s = true → vf_n64 (fSh t b.1 s) ∧ fSh t b.1 s = mId v u.1 s.toNatClampNeg := by
    intro s hg
    obtain ⟨j, hj, rfl, h0⟩ := hs_of hs hg
    obtain ⟨e1, e2⟩ := hs.sh hu.2.1 hj
    rw [cl10 hj, hu1, e1]
    exact ⟨e2, rfl⟩
  have hC0 := c_X6_idealShare (l := l) (X := X) (t := t) (b := b) (k := k) (y := y) hl (X.2.2.2.2 1 (i + 1)) (fun z => (hn _ z).1)
  have hM := c_X7_idealShare (l := l) (X := X) (f := f) (v := v) (u := u) (k := km) (q := q) (X.2.2.2.2 1 (i + 1)) (fun z => by rw [hs.hs] at z; rw [← (hn _ z).2]; exact (hn _ z).1)
  rw [hs.hs] at hM
  cases hg : fHs (cS t).1 (X.2.2.2.2 1 (i + 1)) with
  | false =>
    rw [hg] at hC0 hM
    exact w_idealShare hi hL hkc hks (c_L_idealShare_x _ (hC0) hxP rfl) (hM) c_X7_thrown (fun z => absurd z (by decide)) lkP lkP lkP rfl rfl (nx _ _ _ _ _ _ _ _ _ _ _ ⟨hs, hu, hkw, hy, hlw⟩)
  | true =>
    have hn0 := hn _ hg
    rw [hg] at hC0 hM
    exact w_idealShare hi hL hkc hks (c_L_idealShare_ok _ (hC0) hxP hxP rfl) (hM) c_X7_thrown (fun _ => ⟨show vf_upd d 0 (fSh t b.1 (X.2.2.2.2 1 (i + 1))) 0 = mId v u.1 (X.2.2.2.2 1 (i + 1)).toNatClampNeg from by rw [← hn0.2]; rfl, show vf_n64 (mId v u.1 (X.2.2.2.2 1 (i + 1)).toNatClampNeg) from by rw [← hn0.2]; exact hn0.1⟩) lkP lkP lkP rfl rfl (nx _ _ _ _ _ _ _ _ _ _ _ ⟨hs, hu, hkw, hy, hlw⟩)
theorem s_removalDisruption (hl : l.stackTraces = false) (hX : aXok X) (hi : i + 2 < X.2.2.2.1 1) (hL : X.2.2.2.1 1 ≤ 1536) (hkc : kc ≤ 600000) (hks : ks ≤ 7000000) (hB0 : 0 ≤ B) (hB : B + 1000000 < 2 ^ 59) (R : aR B t b k y v u km q) (nx : aNx l X nm hh G (kc + 8) (ks + 64) i (B + 1000000)) : aJ l X (mLw nm hh) ([], G) kc ks 899 (LV i) [] (aLw (aPT t b k y) (aMo f v u km q) (aLa 1 o) (aDa 1 d)) := by
  obtain ⟨hs, hu, hk, hy, hlb⟩ := R
  have hlw := hlb.weak (B' := B + 1000000) (by omega)
  have hkw := hk.weak (B' := B + 1000000) (by omega)
  have hMb := slP_b hu.2.1
  have hu1 := hu.1
  have hC0 := c_X6_removalDisruption (l := l) (X := X) (t := t) (b := b) (k := k) (y := y) hl hs.ok hu.bok (X.2.2.2.2 1 (i + 1))
  cases hg : fHs (cS t).1 (X.2.2.2.2 1 (i + 1)) with
  | false =>
    rw [hg] at hC0
    have hgm : fHs v.1 (X.2.2.2.2 1 (i + 1)) = false := by rw [hs.hs]; exact hg
    exact w_removalDisruption hi hL hkc hks (c_L_removalDisruption_x _ (hC0) hxP rfl) (c_X7_removalDisruption_bad (l := l) (X := X) (f := f) (v := v) (u := u) (k := km) (q := q) _ hgm) c_X7_thrown (fun z => absurd z (by decide)) lkP lkP lkP rfl rfl (nx _ _ _ _ _ _ _ _ _ _ _ ⟨hs, hu, hkw, hy, hlw⟩)
  | true =>
    rw [hg] at hC0
    obtain ⟨s, hs10, es, h0⟩ := hs_of hs hg
    have hgm : fHs v.1 (nI s) = true := by rw [hs.hs, ← es]; exact hg
    have hM := c_X7_removalDisruption_ok (l := l) (X := X) (f := f) (v := v) (u := u) (k := km) (q := q) s hs10 hgm (by rw [hu1]; exact hu.2.1) t.1 t.2.1 hs.bN hs.2.2.2.2.1.1 hs.2.2.1 hs.2.2.2.2.1.2.1
    rw [← es] at hM
    have hwo : ∀ j, j < b.1 → (nDr t b (X.2.2.2.2 1 (i + 1))).1 j = mBd b.1 t.1 t.2.1 (mOn (vSu v s 0)) u.2.1 j := by
      intro j hj
      refine nDr_mBd (by omega) hMb.2 (fun s' hs' => ?_) hj
      unfold dOn
      rw [hs.fup hs', es]
      show _ = decide (upd v.1 s 0 s' = 2)
      by_cases q : s' = s
      · subst q; simp [upd]
      · have : ¬ nI s' = nI s := fun z => q ((nI_eq (by omega) (by omega)).mp z)
        rw [← hs.mon hs']
        simp [upd, q, this]
    have hval : sCc b.2.1 (nDr t b (X.2.2.2.2 1 (i + 1))).1 b.1 = sCc (fFl u.1 u.2.1 u.2.2.1) (mBd u.1 t.1 t.2.1 (mOn (vSu v s 0)) u.2.1) u.1 := by
      rw [hu1]
      refine aLp_congr b.1 (fun j a hj => ?_) b.1 0 0 (Nat.zero_add _)
      rw [hwo j hj]
      have : fFl b.1 u.2.1 u.2.2.1 j = b.2.1 j := by rw [← hu.2.2.1 j hj]; simp [fFl, hj]
      rw [this]
    refine w_removalDisruption hi hL hkc hks (c_L_removalDisruption_ok _ hC0 hxP hxP rfl) hM c_X7_thrown (fun _ => by rw [o_put, hval]) lkP lkP lkP rfl rfl (nx _ _ _ _ _ _ _ _ _ _ _ ⟨hs, ?_, hkw, hy, hlw⟩)
    refine ⟨hu1, hu.2.1, fun j hj => ?_, hu.2.2.2.1, hu.2.2.2.2.1, hu.2.2.2.2.2⟩
    have hj' : j < b.1 := hj
    show mBd u.1 t.1 t.2.1 (mOn v) _ j = b.2.1 j
    rw [hu.2.2.2.1 j hj', hu1]
    exact mBd_congr (by omega) (fun s' hs' => hs.mon hs') (fun _ _ _ => rfl) (fun _ _ => rfl) hj'
theorem s_serverOf (hl : l.stackTraces = false) (hX : aXok X) (hi : i + 2 < X.2.2.2.1 1) (hL : X.2.2.2.1 1 ≤ 1536) (hkc : kc ≤ 600000) (hks : ks ≤ 7000000) (hB0 : 0 ≤ B) (hB : B + 1000000 < 2 ^ 59) (R : aR B t b k y v u km q) (nx : aNx l X nm hh G (kc + 8) (ks + 64) i (B + 1000000)) : aJ l X (mLw nm hh) ([], G) kc ks 955 (LV i) [] (aLw (aPT t b k y) (aMo f v u km q) (aLa 1 o) (aDa 1 d)) := by
  obtain ⟨hs, hu, hk, hy, hlb⟩ := R
  have hlw := hlb.weak (B' := B + 1000000) (by omega)
  have hkw := hk.weak (B' := B + 1000000) (by omega)
  have hMb := slP_b hu.2.1
  have hu1 := hu.1
  have hC0 := c_X6_serverOf (l := l) (X := X) (t := t) (b := b) (k := k) (y := y) hl hs.ok hu.bok (X.2.2.2.2 1 (i + 1))
  cases hg : gKy (X.2.2.2.2 1 (i + 1)) with
  | false =>
    rw [hg] at hC0
    exact w_serverOf hi hL hkc hks (c_L_serverOf_x _ (hC0) hxP rfl) (c_X7_serverOf_bad (l := l) (X := X) (f := f) (v := v) (u := u) (k := km) (q := q) _ hg) c_X7_thrown (fun z => absurd z (by decide)) lkP lkP lkP rfl rfl (nx _ _ _ _ _ _ _ _ _ _ _ ⟨hs, hu, hkw, hy, hlw⟩)
  | true =>
    rw [hg] at hC0
    obtain ⟨kk, hkk, ek⟩ := gKy_N hg
    rw [ek] at hg
    have hM := c_X7_serverOf_ok (l := l) (X := X) (f := f) (v := v) (u := u) (k := km) (q := q) (by omega) (by omega) hs.vpo kk hkk hg
    rw [← ek, (rel_at hs hu kk).1] at hM
    exact w_serverOf hi hL hkc hks (c_L_serverOf_ok _ (hC0) hxP hxP rfl) (hM) c_X7_thrown (fun _ => by rw [o_put, ek, nI_clamp (by omega)]) lkP lkP lkP rfl rfl (nx _ _ _ _ _ _ _ _ _ _ _ ⟨hs, hu, hkw, hy, hlw⟩)
theorem s_request (hl : l.stackTraces = false) (hX : aXok X) (hi : i + 2 < X.2.2.2.1 1) (hL : X.2.2.2.1 1 ≤ 1536) (hkc : kc ≤ 600000) (hks : ks ≤ 7000000) (hB0 : 0 ≤ B) (hB : B + 1000000 < 2 ^ 59) (R : aR B t b k y v u km q) (nx : aNx l X nm hh G (kc + 8) (ks + 64) i (B + 1000000)) : aJ l X (mLw nm hh) ([], G) kc ks 1011 (LV i) [] (aLw (aPT t b k y) (aMo f v u km q) (aLa 1 o) (aDa 1 d)) := by
  obtain ⟨hs, hu, hk, hy, hlb⟩ := R
  have hlw := hlb.weak (B' := B + 1000000) (by omega)
  have hkw := hk.weak (B' := B + 1000000) (by omega)
  have hMb := slP_b hu.2.1
  have hu1 := hu.1
  have hC0 := c_X6_request (l := l) (X := X) (t := t) (b := b) (k := k) (y := y) hl hs.ok hu.bok hk.2.2.2.1 (X.2.2.2.2 1 (i + 1)) (X.2.2.2.2 1 (i + 2))
  cases hg : (gKy (X.2.2.2.2 1 (i + 1)) && gRq (X.2.2.2.2 1 (i + 2))) with
  | false =>
    rw [hg] at hC0
    exact w_request hi hL hkc hks (c_L_request_x _ _ (hC0) hxP rfl) (c_X7_request_bad (l := l) (X := X) (f := f) (v := v) (u := u) (k := km) (q := q) _ _ hg) c_X7_thrown (fun z => absurd z (by decide)) lkP lkP lkP rfl rfl (nx _ _ _ _ _ _ _ _ _ _ _ ⟨hs, hu, hkw, hy, hlw⟩)
  | true =>
    rw [hg] at hC0
    have hg2 := hg
    rw [Bool.and_eq_true] at hg2
    obtain ⟨kk, hkk, ek⟩ := gKy_N hg2.1
    obtain ⟨n1, n2⟩ := gRq_N hg2.2
    obtain ⟨ra, rb⟩ := rel_at hs hu kk
    rw [ek] at hg
    have hM := c_X7_request_ok (l := l) (X := X) (f := f) (v := v) (u := u) (k := km) (q := q) (by omega) (by omega) hs.vpo (by rw [← hk.len]; exact hk.2.2.2.1) kk (X.2.2.2.2 1 (i + 2)) hkk hg (by rw [ra]; rcases rb with z | ⟨s, z1, z2, z3⟩; exact Or.inl z; exact Or.inr ⟨s, z1, z3⟩)
    rw [← ek, ra] at hM
    have ec : (X.2.2.2.2 1 (i + 1)).toNatClampNeg = kk := by rw [ek]; exact nI_clamp (by omega)
    rw [ec] at hC0
    have hR := hs.ald (n := X.2.2.2.2 1 (i + 2)) rb
    exact w_request hi hL hkc hks (c_L_request_ok _ _ hC0 hxP hxP rfl) hM c_X7_thrown (fun _ => o_put) lkP lkP lkP rfl rfl (nx _ _ _ _ _ _ _ _ _ _ _ ⟨hR, hu.same rfl rfl rfl, hk.count hB0 (by omega) _ _ n1 n2, hy, hlb.1.ald hB0 hB n1 n2, hlw.2⟩)
theorem s_loadOf (hl : l.stackTraces = false) (hX : aXok X) (hi : i + 2 < X.2.2.2.1 1) (hL : X.2.2.2.1 1 ≤ 1536) (hkc : kc ≤ 600000) (hks : ks ≤ 7000000) (hB0 : 0 ≤ B) (hB : B + 1000000 < 2 ^ 59) (R : aR B t b k y v u km q) (nx : aNx l X nm hh G (kc + 8) (ks + 64) i (B + 1000000)) : aJ l X (mLw nm hh) ([], G) kc ks 1079 (LV i) [] (aLw (aPT t b k y) (aMo f v u km q) (aLa 1 o) (aDa 1 d)) := by
  obtain ⟨hs, hu, hk, hy, hlb⟩ := R
  have hlw := hlb.weak (B' := B + 1000000) (by omega)
  have hkw := hk.weak (B' := B + 1000000) (by omega)
  have hMb := slP_b hu.2.1
  have hu1 := hu.1
  have hC0 := c_X6_loadOf (l := l) (X := X) (t := t) (b := b) (k := k) (y := y) hl (X.2.2.2.2 1 (i + 1))
  have hM := c_X7_loadOf (l := l) (X := X) (f := f) (v := v) (u := u) (k := km) (q := q) (X.2.2.2.2 1 (i + 1))
  rw [hs.hs] at hM
  cases hg : fHs (cS t).1 (X.2.2.2.2 1 (i + 1)) with
  | false =>
    rw [hg] at hC0 hM
    exact w_loadOf hi hL hkc hks (c_L_loadOf_x _ (hC0) hxP rfl) (hM) c_X7_thrown (fun z => absurd z (by decide)) lkP lkP lkP rfl rfl (nx _ _ _ _ _ _ _ _ _ _ _ ⟨hs, hu, hkw, hy, hlw⟩)
  | true =>
    rw [hg] at hC0 hM
    obtain ⟨s, hs10, es, h0⟩ := hs_of hs hg
    exact w_loadOf hi hL hkc hks (c_L_loadOf_ok _ (hC0) hxP hxP rfl) (hM) c_X7_thrown (fun _ => by rw [o_put]; show _ = v.2.2.2.1 (X.2.2.2.2 1 (i + 1)).toNatClampNeg; rw [es, cl10 hs10, hs.2.2.2.1 s hs10]) lkP lkP lkP rfl rfl (nx _ _ _ _ _ _ _ _ _ _ _ ⟨hs, hu, hkw, hy, hlw⟩)
theorem s_rankedServer (hl : l.stackTraces = false) (hX : aXok X) (hi : i + 2 < X.2.2.2.1 1) (hL : X.2.2.2.1 1 ≤ 1536) (hkc : kc ≤ 600000) (hks : ks ≤ 7000000) (hB0 : 0 ≤ B) (hB : B + 1000000 < 2 ^ 59) (R : aR B t b k y v u km q) (nx : aNx l X nm hh G (kc + 8) (ks + 64) i (B + 1000000)) : aJ l X (mLw nm hh) ([], G) kc ks 1134 (LV i) [] (aLw (aPT t b k y) (aMo f v u km q) (aLa 1 o) (aDa 1 d)) := by
  obtain ⟨hs, hu, hk, hy, hlb⟩ := R
  have hlw := hlb.weak (B' := B + 1000000) (by omega)
  have hkw := hk.weak (B' := B + 1000000) (by omega)
  have hMb := slP_b hu.2.1
  have hu1 := hu.1
  have hC0 := c_X6_rankedServer (l := l) (X := X) (t := t) (b := b) (k := k) (y := y) hl (X.2.2.2.2 1 (i + 1))
  have hcn := cN_le (cOn t) 10
  have hin : mIn (X.2.2.2.2 1 (i + 1)).toInt64 0 (mUc v - 1).toInt64 = (decide (¬ X.2.2.2.2 1 (i + 1) < 0) && decide (X.2.2.2.2 1 (i + 1) < fUc (cS t).1 (cS t).2.2.1)) := by
    rw [hs.uc, hs.ucN, mIn_sl0 (by omega)]
    unfold sSl
    simp only [i32_nle]
  cases hg : (decide (¬ X.2.2.2.2 1 (i + 1) < 0) && decide (X.2.2.2.2 1 (i + 1) < fUc (cS t).1 (cS t).2.2.1)) with
  | false =>
    rw [hg] at hC0 hin
    exact w_rankedServer hi hL hkc hks (c_L_rankedServer_x _ (hC0) hxP rfl) (c_X7_rankedServer_bad (l := l) (X := X) (f := f) (v := v) (u := u) (k := km) (q := q) _ hin) c_X7_thrown (fun z => absurd z (by decide)) lkP lkP lkP rfl rfl (nx _ _ _ _ _ _ _ _ _ _ _ ⟨hs, hu, hkw, hy, hlw⟩)
  | true =>
    rw [hg] at hC0 hin
    have hM := c_X7_rankedServer_ok (l := l) (X := X) (f := f) (v := v) (u := u) (k := km) (q := q) _ hin
    rw [hs.rd] at hM
    exact w_rankedServer hi hL hkc hks (c_L_rankedServer_ok _ (hC0) hxP hxP rfl) (hM) c_X7_thrown (fun _ => o_put) lkP lkP lkP rfl rfl (nx _ _ _ _ _ _ _ _ _ _ _ ⟨hs, hu, hkw, hy, hlw⟩)
theorem s_pin (hl : l.stackTraces = false) (hX : aXok X) (hi : i + 2 < X.2.2.2.1 1) (hL : X.2.2.2.1 1 ≤ 1536) (hkc : kc ≤ 600000) (hks : ks ≤ 7000000) (hB0 : 0 ≤ B) (hB : B + 1000000 < 2 ^ 59) (R : aR B t b k y v u km q) (nx : aNx l X nm hh G (kc + 8) (ks + 64) i (B + 1000000)) : aJ l X (mLw nm hh) ([], G) kc ks 1190 (LV i) [] (aLw (aPT t b k y) (aMo f v u km q) (aLa 1 o) (aDa 1 d)) := by
  obtain ⟨hs, hu, hk, hy, hlb⟩ := R
  have hlw := hlb.weak (B' := B + 1000000) (by omega)
  have hkw := hk.weak (B' := B + 1000000) (by omega)
  have hMb := slP_b hu.2.1
  have hu1 := hu.1
  have hC0 := c_X6_pin (l := l) (X := X) (t := t) (b := b) (k := k) (y := y) hl hs.ok (X.2.2.2.2 1 (i + 1)) (X.2.2.2.2 1 (i + 2))
  cases hg : (gKy (X.2.2.2.2 1 (i + 1)) && fHs (cS t).1 (X.2.2.2.2 1 (i + 2))) with
  | false =>
    rw [hg] at hC0
    have hgm : (gKy (X.2.2.2.2 1 (i + 1)) && fHs v.1 (X.2.2.2.2 1 (i + 2))) = false := by rw [hs.hs]; exact hg
    exact w_pin hi hL hkc hks (c_L_pin_x _ _ (hC0) hxP rfl) (c_X7_pin_bad (l := l) (X := X) (f := f) (v := v) (u := u) (k := km) (q := q) hs.vpo.1 _ _ hgm) c_X7_thrown (fun z => absurd z (by decide)) lkP lkP lkP rfl rfl (nx _ _ _ _ _ _ _ _ _ _ _ ⟨hs, hu, hkw, hy, hlw⟩)
  | true =>
    have hgm : (gKy (X.2.2.2.2 1 (i + 1)) && fHs v.1 (X.2.2.2.2 1 (i + 2))) = true := by rw [hs.hs]; exact hg
    have hrm := hs.room (X.2.2.2.2 1 (i + 1))
    rw [hg] at hC0
    cases hr : gRm t (X.2.2.2.2 1 (i + 1)) with
    | false =>
      rw [hr] at hC0 hrm
      have hr' : mNr v (X.2.2.2.2 1 (i + 1)) = true := by cases hz : mNr v (X.2.2.2.2 1 (i + 1)) with | true => rfl | false => rw [hz] at hrm; cases hrm
      exact w_pin hi hL hkc hks (c_L_pin_y _ _ (hC0) hxP rfl) (c_X7_pin_full (l := l) (X := X) (f := f) (v := v) (u := u) (k := km) (q := q) hs.vpo.1 _ _ hgm hr') c_X7_thrown (fun z => absurd z (by decide)) lkP lkP lkP rfl rfl (nx _ _ _ _ _ _ _ _ _ _ _ ⟨hs, hu, hkw, hy, hlw⟩)
    | true =>
      rw [hr] at hC0
      have hr' : mNr v (X.2.2.2.2 1 (i + 1)) = false := by rw [hr] at hrm; cases hz : mNr v (X.2.2.2.2 1 (i + 1)) with | false => rfl | true => rw [hz] at hrm; cases hrm
      rw [Bool.and_eq_true] at hg
      obtain ⟨s, hs10, es, h0⟩ := hs_of hs hg.2
      obtain ⟨hR, hlen⟩ := hs.pinned (key := X.2.2.2.2 1 (i + 1)) hs10 hr
      rw [← es] at hR hlen
      have hM := c_X7_pin_ok (l := l) (X := X) (f := f) (v := v) (u := u) (k := km) (q := q) hs.vpo.1 _ _ hgm hr'
      rw [hlen] at hM
      exact w_pin hi hL hkc hks (c_L_pin_ok _ _ hC0 hxP hxP rfl) hM c_X7_thrown (fun _ => o_put) lkP lkP lkP rfl rfl (nx _ _ _ _ _ _ _ _ _ _ _ ⟨hR, hu.same rfl rfl rfl, hkw, hy, hlw.1, hlw.2⟩)
theorem s_unpin (hl : l.stackTraces = false) (hX : aXok X) (hi : i + 2 < X.2.2.2.1 1) (hL : X.2.2.2.1 1 ≤ 1536) (hkc : kc ≤ 600000) (hks : ks ≤ 7000000) (hB0 : 0 ≤ B) (hB : B + 1000000 < 2 ^ 59) (R : aR B t b k y v u km q) (nx : aNx l X nm hh G (kc + 8) (ks + 64) i (B + 1000000)) : aJ l X (mLw nm hh) ([], G) kc ks 1258 (LV i) [] (aLw (aPT t b k y) (aMo f v u km q) (aLa 1 o) (aDa 1 d)) := by
  obtain ⟨hs, hu, hk, hy, hlb⟩ := R
  have hlw := hlb.weak (B' := B + 1000000) (by omega)
  have hkw := hk.weak (B' := B + 1000000) (by omega)
  have hMb := slP_b hu.2.1
  have hu1 := hu.1
  have hC0 := c_X6_unpin (l := l) (X := X) (t := t) (b := b) (k := k) (y := y) hl hs.ok (X.2.2.2.2 1 (i + 1))
  cases hg : gKy (X.2.2.2.2 1 (i + 1)) with
  | false =>
    rw [hg] at hC0
    exact w_unpin hi hL hkc hks (c_L_unpin_x _ (hC0) hxP rfl) (c_X7_unpin_bad (l := l) (X := X) (f := f) (v := v) (u := u) (k := km) (q := q) _ hg) c_X7_thrown (fun z => absurd z (by decide)) lkP lkP lkP rfl rfl (nx _ _ _ _ _ _ _ _ _ _ _ ⟨hs, hu, hkw, hy, hlw⟩)
  | true =>
    rw [hg] at hC0
    rcases hs.find (X.2.2.2.2 1 (i + 1)) with ⟨h1, h2, -⟩ | ⟨j, s, h1, h2, h3, h4, h5⟩
    · rw [h1] at hC0
      exact w_unpin hi hL hkc hks (c_L_unpin_ok _ hC0 hxP hxP rfl) (c_X7_unpin_no (l := l) (X := X) (f := f) (v := v) (u := u) (k := km) (q := q) hs.vpo.1 _ hg h2) c_X7_thrown (fun _ => o_put) lkP lkP lkP rfl rfl (nx _ _ _ _ _ _ _ _ _ _ _ ⟨hs.unp_no h2, hu.same rfl rfl rfl, hkw, hy, hlw.1, hlw.2⟩)
    · rw [h2] at hC0
      have hM := c_X7_unpin_ok (l := l) (X := X) (f := f) (v := v) (u := u) (k := km) (q := q) hs.vpo.1 _ hg j h3
      rw [h5] at hM
      exact w_unpin hi hL hkc hks (c_L_unpin_ok _ hC0 hxP hxP rfl) hM c_X7_thrown (fun _ => o_put) lkP lkP lkP rfl rfl (nx _ _ _ _ _ _ _ _ _ _ _ ⟨hs.unp_ok h3, hu.same rfl rfl rfl, hkw, hy, hlw.1, hlw.2⟩)
theorem s_hotKey (hl : l.stackTraces = false) (hX : aXok X) (hi : i + 2 < X.2.2.2.1 1) (hL : X.2.2.2.1 1 ≤ 1536) (hkc : kc ≤ 600000) (hks : ks ≤ 7000000) (hB0 : 0 ≤ B) (hB : B + 1000000 < 2 ^ 59) (R : aR B t b k y v u km q) (nx : aNx l X nm hh G (kc + 8) (ks + 64) i (B + 1000000)) : aJ l X (mLw nm hh) ([], G) kc ks 1371 (LV i) [] (aLw (aPT t b k y) (aMo f v u km q) (aLa 1 o) (aDa 1 d)) := by
  obtain ⟨hs, hu, hk, hy, hlb⟩ := R
  have hlw := hlb.weak (B' := B + 1000000) (by omega)
  have hkw := hk.weak (B' := B + 1000000) (by omega)
  have hMb := slP_b hu.2.1
  have hu1 := hu.1
  have hC0 := c_X6_hotKey (l := l) (X := X) (t := t) (b := b) (k := k) (y := y) hl (X.2.2.2.2 1 (i + 1))
  have h8 := hk.2.2.2.1
  have hlen := hk.len
  have hg2 : tHs k.2 (X.2.2.2.2 1 (i + 1)) = sSl k.2 (X.2.2.2.2 1 (i + 1)) := by
    unfold tHs sSl
    by_cases q : nI k.2 ≤ X.2.2.2.2 1 (i + 1)
    · simp [q]
    · have : ¬ (8 : Int32) ≤ X.2.2.2.2 1 (i + 1) := fun z => q (by
        have e8 : (nI 8).toInt = 8 := by decide
        have ek : (nI k.2).toInt = k.2 := nI_toInt (by omega)
        rw [Int32.le_iff_toInt_le] at z ⊢
        have z' : (8 : Int) ≤ (X.2.2.2.2 1 (i + 1)).toInt := z
        rw [ek]; omega)
      simp [q, this]
  rw [hg2] at hC0
  cases hg : sSl k.2 (X.2.2.2.2 1 (i + 1)) with
  | false =>
    rw [hg] at hC0
    exact w_hotKey hi hL hkc hks (c_L_hotKey_x _ (hC0) hxP rfl) (c_X7_hotKey_bad (l := l) (X := X) (f := f) (v := v) (u := u) (k := km) (q := q) (by omega) _ (by rw [← hlen]; exact hg)) c_X7_thrown (fun z => absurd z (by decide)) lkP lkP lkP rfl rfl (nx _ _ _ _ _ _ _ _ _ _ _ ⟨hs, hu, hkw, hy, hlw⟩)
  | true =>
    rw [hg] at hC0
    obtain ⟨p, hp, ep⟩ := sl_of (by omega) hg
    obtain ⟨j, hj, hl1, hl2⟩ := hk.listed hp
    rw [← ep] at hl1
    have hM := c_X7_hotKey_ok (l := l) (X := X) (f := f) (v := v) (u := u) (k := km) (q := q) (by omega) _ (by rw [← hlen]; exact hg) j hl1
    have e : km.1.1 j = k.1.1 p := congrArg (fun x => x.1) hl2
    rw [e] at hM
    exact w_hotKey hi hL hkc hks (c_L_hotKey_ok _ (hC0) hxP hxP rfl) (hM) c_X7_thrown (fun _ => by rw [o_put, ep, cl8 (by omega)]) lkP lkP lkP rfl rfl (nx _ _ _ _ _ _ _ _ _ _ _ ⟨hs, hu, hkw, hy, hlw⟩)
theorem s_hotCount (hl : l.stackTraces = false) (hX : aXok X) (hi : i + 2 < X.2.2.2.1 1) (hL : X.2.2.2.1 1 ≤ 1536) (hkc : kc ≤ 600000) (hks : ks ≤ 7000000) (hB0 : 0 ≤ B) (hB : B + 1000000 < 2 ^ 59) (R : aR B t b k y v u km q) (nx : aNx l X nm hh G (kc + 8) (ks + 64) i (B + 1000000)) : aJ l X (mLw nm hh) ([], G) kc ks 1427 (LV i) [] (aLw (aPT t b k y) (aMo f v u km q) (aLa 1 o) (aDa 1 d)) := by
  obtain ⟨hs, hu, hk, hy, hlb⟩ := R
  have hlw := hlb.weak (B' := B + 1000000) (by omega)
  have hkw := hk.weak (B' := B + 1000000) (by omega)
  have hMb := slP_b hu.2.1
  have hu1 := hu.1
  have hC0 := c_X6_hotCount (l := l) (X := X) (t := t) (b := b) (k := k) (y := y) hl (X.2.2.2.2 1 (i + 1))
  have h8 := hk.2.2.2.1
  have hlen := hk.len
  have hg2 : tHs k.2 (X.2.2.2.2 1 (i + 1)) = sSl k.2 (X.2.2.2.2 1 (i + 1)) := by
    unfold tHs sSl
    by_cases q : nI k.2 ≤ X.2.2.2.2 1 (i + 1)
    · simp [q]
    · have : ¬ (8 : Int32) ≤ X.2.2.2.2 1 (i + 1) := fun z => q (by
        have e8 : (nI 8).toInt = 8 := by decide
        have ek : (nI k.2).toInt = k.2 := nI_toInt (by omega)
        rw [Int32.le_iff_toInt_le] at z ⊢
        have z' : (8 : Int) ≤ (X.2.2.2.2 1 (i + 1)).toInt := z
        rw [ek]; omega)
      simp [q, this]
  rw [hg2] at hC0
  cases hg : sSl k.2 (X.2.2.2.2 1 (i + 1)) with
  | false =>
    rw [hg] at hC0
    exact w_hotCount hi hL hkc hks (c_L_hotCount_x _ (hC0) hxP rfl) (c_X7_hotCount_bad (l := l) (X := X) (f := f) (v := v) (u := u) (k := km) (q := q) (by omega) _ (by rw [← hlen]; exact hg)) c_X7_thrown (fun z => absurd z (by decide)) lkP lkP lkP rfl rfl (nx _ _ _ _ _ _ _ _ _ _ _ ⟨hs, hu, hkw, hy, hlw⟩)
  | true =>
    rw [hg] at hC0
    obtain ⟨p, hp, ep⟩ := sl_of (by omega) hg
    obtain ⟨j, hj, hl1, hl2⟩ := hk.listed hp
    rw [← ep] at hl1
    have hM := c_X7_hotCount_ok (l := l) (X := X) (f := f) (v := v) (u := u) (k := km) (q := q) (by omega) _ (by rw [← hlen]; exact hg) j hl1
    have e : km.1.2.1 j = k.1.2.1 p := congrArg (fun x => x.2.1) hl2
    rw [e] at hM
    exact w_hotCount hi hL hkc hks (c_L_hotCount_ok _ (hC0) hxP hxP rfl) (hM) c_X7_thrown (fun _ => by rw [o_put, ep, cl8 (by omega)]) lkP lkP lkP rfl rfl (nx _ _ _ _ _ _ _ _ _ _ _ ⟨hs, hu, hkw, hy, hlw⟩)
theorem s_hotError (hl : l.stackTraces = false) (hX : aXok X) (hi : i + 2 < X.2.2.2.1 1) (hL : X.2.2.2.1 1 ≤ 1536) (hkc : kc ≤ 600000) (hks : ks ≤ 7000000) (hB0 : 0 ≤ B) (hB : B + 1000000 < 2 ^ 59) (R : aR B t b k y v u km q) (nx : aNx l X nm hh G (kc + 8) (ks + 64) i (B + 1000000)) : aJ l X (mLw nm hh) ([], G) kc ks 1482 (LV i) [] (aLw (aPT t b k y) (aMo f v u km q) (aLa 1 o) (aDa 1 d)) := by
  obtain ⟨hs, hu, hk, hy, hlb⟩ := R
  have hlw := hlb.weak (B' := B + 1000000) (by omega)
  have hkw := hk.weak (B' := B + 1000000) (by omega)
  have hMb := slP_b hu.2.1
  have hu1 := hu.1
  have hC0 := c_X6_hotError (l := l) (X := X) (t := t) (b := b) (k := k) (y := y) hl (X.2.2.2.2 1 (i + 1))
  have h8 := hk.2.2.2.1
  have hlen := hk.len
  have hg2 : tHs k.2 (X.2.2.2.2 1 (i + 1)) = sSl k.2 (X.2.2.2.2 1 (i + 1)) := by
    unfold tHs sSl
    by_cases q : nI k.2 ≤ X.2.2.2.2 1 (i + 1)
    · simp [q]
    · have : ¬ (8 : Int32) ≤ X.2.2.2.2 1 (i + 1) := fun z => q (by
        have e8 : (nI 8).toInt = 8 := by decide
        have ek : (nI k.2).toInt = k.2 := nI_toInt (by omega)
        rw [Int32.le_iff_toInt_le] at z ⊢
        have z' : (8 : Int) ≤ (X.2.2.2.2 1 (i + 1)).toInt := z
        rw [ek]; omega)
      simp [q, this]
  rw [hg2] at hC0
  cases hg : sSl k.2 (X.2.2.2.2 1 (i + 1)) with
  | false =>
    rw [hg] at hC0
    exact w_hotError hi hL hkc hks (c_L_hotError_x _ (hC0) hxP rfl) (c_X7_hotError_bad (l := l) (X := X) (f := f) (v := v) (u := u) (k := km) (q := q) (by omega) _ (by rw [← hlen]; exact hg)) c_X7_thrown (fun z => absurd z (by decide)) lkP lkP lkP rfl rfl (nx _ _ _ _ _ _ _ _ _ _ _ ⟨hs, hu, hkw, hy, hlw⟩)
  | true =>
    rw [hg] at hC0
    obtain ⟨p, hp, ep⟩ := sl_of (by omega) hg
    obtain ⟨j, hj, hl1, hl2⟩ := hk.listed hp
    rw [← ep] at hl1
    have hM := c_X7_hotError_ok (l := l) (X := X) (f := f) (v := v) (u := u) (k := km) (q := q) (by omega) _ (by rw [← hlen]; exact hg) j hl1
    have e : km.1.2.2 j = k.1.2.2 p := congrArg (fun x => x.2.2) hl2
    rw [e] at hM
    exact w_hotError hi hL hkc hks (c_L_hotError_ok _ (hC0) hxP hxP rfl) (hM) c_X7_thrown (fun _ => by rw [o_put, ep, cl8 (by omega)]) lkP lkP lkP rfl rfl (nx _ _ _ _ _ _ _ _ _ _ _ ⟨hs, hu, hkw, hy, hlw⟩)
theorem s_pinHottest (hl : l.stackTraces = false) (hX : aXok X) (hi : i + 2 < X.2.2.2.1 1) (hL : X.2.2.2.1 1 ≤ 1536) (hkc : kc ≤ 600000) (hks : ks ≤ 7000000) (hB0 : 0 ≤ B) (hB : B + 1000000 < 2 ^ 59) (R : aR B t b k y v u km q) (nx : aNx l X nm hh G (kc + 8) (ks + 64) i (B + 1000000)) : aJ l X (mLw nm hh) ([], G) kc ks 1314 (LV i) [] (aLw (aPT t b k y) (aMo f v u km q) (aLa 1 o) (aDa 1 d)) := by
  obtain ⟨hs, hu, hk, hy, hlb⟩ := R
  have hlw := hlb.weak (B' := B + 1000000) (by omega)
  have hkw := hk.weak (B' := B + 1000000) (by omega)
  have hMb := slP_b hu.2.1
  have hu1 := hu.1
  have hC0 := c_X6_pinHottest (l := l) (X := X) (t := t) (b := b) (k := k) (y := y) hl hs.ok hk.2.2.2.1
  have h8 := hk.2.2.2.1
  have hlen := hk.len
  cases hg : gPh t k with
  | false =>
    rw [hg] at hC0
    have hb : km.2 = 0 ∨ mUc v = 0 ∨ ∃ i, mLi km 0 = some i ∧ mNr v (km.1.1 i) = true := by
      by_cases q0 : k.2 = 0
      · left; omega
      · by_cases q1 : fUc (cS t).1 (cS t).2.2.1 = 0
        · right; left; rw [hs.uc]; exact q1
        · right; right
          obtain ⟨j, hj, hl1, hl2⟩ := hk.listed (show 0 < k.2 by omega)
          refine ⟨j, hl1, ?_⟩
          have e : km.1.1 j = k.1.1 0 := congrArg Prod.fst hl2
          have hrm := hs.room (k.1.1 0)
          have hk0 : ¬ nI k.2 = 0 := nI_ne0 (by omega) (by omega)
          have hr : gRm t (k.1.1 0) = false := by
            unfold gPh at hg
            simpa [hk0, q1] using hg
          rw [e]
          rw [hr] at hrm
          cases hz : mNr v (k.1.1 0) with
          | true => rfl
          | false => rw [hz] at hrm; cases hrm
    exact w_pinHottest hi hL hkc hks (c_L_pinHottest_x (hC0) hxP rfl) (c_X7_pinHottest_bad (l := l) (X := X) (f := f) (v := v) (u := u) (k := km) (q := q) hs.vpo.1 (by omega) hb) c_X7_thrown (fun z => absurd z (by decide)) lkP lkP lkP rfl rfl (nx _ _ _ _ _ _ _ _ _ _ _ ⟨hs, hu, hkw, hy, hlw⟩)
  | true =>
    rw [hg] at hC0
    unfold gPh at hg
    rw [Bool.and_eq_true, Bool.and_eq_true, decide_eq_true_eq, decide_eq_true_eq] at hg
    obtain ⟨g1, g2, g3⟩ := hg
    have hk0 : 0 < k.2 := by
      rcases Nat.eq_zero_or_pos k.2 with z | z
      · rw [z] at g1; exact absurd rfl g1
      · exact z
    obtain ⟨j, hj, hl1, hl2⟩ := hk.listed hk0
    have e : km.1.1 j = k.1.1 0 := congrArg Prod.fst hl2
    have hrm := hs.room (k.1.1 0)
    have hr' : mNr v (km.1.1 j) = false := by
      rw [e]
      rw [g3] at hrm
      cases hz : mNr v (k.1.1 0) with
      | false => rfl
      | true => rw [hz] at hrm; cases hrm
    have hM := c_X7_pinHottest_ok (l := l) (X := X) (f := f) (v := v) (u := u) (k := km) (q := q) hs.vpo.1 (by omega) (by omega) (by rw [hs.uc]; exact g2) j hl1 hr'
    rw [hs.rd, hs.uc, e] at hM
    obtain ⟨s, hs10, es⟩ : ∃ s, s < 10 ∧ xHs t = nI s := rel_last hs hlb.1 (by omega) g2
    obtain ⟨hR, -⟩ := hs.pinned (key := k.1.1 0) hs10 g3
    rw [← es] at hR
    exact w_pinHottest hi hL hkc hks (c_L_pinHottest_ok hC0 hxP hxP rfl) hM c_X7_thrown (fun _ => o_put) lkP lkP lkP rfl rfl (nx _ _ _ _ _ _ _ _ _ _ _ ⟨hR, hu.same rfl rfl rfl, hkw, hy, hlw.1, hlw.2⟩)
theorem s_undo (hl : l.stackTraces = false) (hX : aXok X) (hi : i + 2 < X.2.2.2.1 1) (hL : X.2.2.2.1 1 ≤ 1536) (hkc : kc ≤ 600000) (hks : ks ≤ 7000000) (hB0 : 0 ≤ B) (hB : B + 1000000 < 2 ^ 59) (R : aR B t b k y v u km q) (nx : aNx l X nm hh G (kc + 8) (ks + 64) i (B + 1000000)) : aJ l X (mLw nm hh) ([], G) kc ks 1537 (LV i) [] (aLw (aPT t b k y) (aMo f v u km q) (aLa 1 o) (aDa 1 d)) := by
  obtain ⟨hs, hu, hk, hy, hlb⟩ := R
  have hlw := hlb.weak (B' := B + 1000000) (by omega)
  have hkw := hk.weak (B' := B + 1000000) (by omega)
  have hMb := slP_b hu.2.1
  have hu1 := hu.1
  rcases Nat.eq_zero_or_pos y.1 with hz | hz
  · exact w_undo hi hL hkc hks (c_L_undo_x (c_X6_undo_bad (l := l) (X := X) (t := t) (b := b) (k := k) (y := y) hl hz) hxP rfl) (c_X7_undo_bad (l := l) (X := X) (f := f) (v := v) (u := u) (k := km) (q := q) (by rw [← hy.1]; exact hz)) c_X7_thrown (fun z => absurd z (by decide)) lkP lkP lkP rfl rfl (nx _ _ _ _ _ _ _ _ _ _ _ ⟨hs, hu, hkw, hy, hlw⟩)
  · obtain ⟨g1, g2⟩ := hy.2.2 0 hz
    rw [Nat.sub_zero] at g1 g2
    have hR : rS (sCN y.2.1 t) (vRow (y.1 - 1) y.2.1.2.2.2.2.2.2 q.2 v) := vRow_rS g1
    have hq : q = (y.1 - 1 + 1, q.2) := by
      have : q.1 = y.1 - 1 + 1 := by have := hy.1; omega
      rw [← this]
    have hM := c_X7_undo_ok (l := l) (X := X) (f := f) (v := v) (u := u) (k := km) (y.1 - 1) y.2.1.2.2.2.2.2.2 q.2 (by have := hy.2.1; omega) g2 (by rw [hu1]; exact hu.2.1) hu.uok (sCN y.2.1 t).1 (sCN y.2.1 t).2.1 hR.bN hR.2.2.2.2.1.1 hR.2.2.1 hR.2.2.2.2.1.2.1
    rw [← hq] at hM
    have hC := c_L_undo_ok (o := o) (c_X6_undo_ok (l := l) (X := X) (t := t) (b := b) (k := k) (y := y) g1.ok hu.bok hz hy.2.1) hxP hxP rfl
    exact w_undo hi hL hkc hks hC hM c_X7_thrown (fun _ => o_put) lkP lkP lkP rfl rfl (nx _ _ _ _ _ _ _ _ _ _ _ ⟨hR, hu.anew hR, hkw, hy.back hz, hlb.back hy.2.1 hz (by omega)⟩)
end STP
