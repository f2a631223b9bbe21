/-! written by wip/whole/pp.py out of wip/whole/src/47.loop.lean -/

/-! ===== the law's loop ===== -/
def lG (X : aX) : State → Array Value → List Frame → (Nat → Prop) → (Nat → Nat) → State → Prop := fun s args below A _ t => args = #[.ref (X.2.2.1 1)] → (∀ q, A q → s.heap.size ≤ q) → lw_Z below args s t
section LLP
variable {l : Launch} {X : aX} {nm : String} {hh : List (Nat × Nat × Nat × Nat)}
theorem a_lend {kc ks : Nat} {L : List Value} {h : List aCell} (hkc : kc ≤ 631930) (hks : ks ≤ 7200314) : aJ l X (mLw nm hh) ([], lG X) kc ks 1588 L [.int 1] h := by
  intro p e s m args below meth c H locs ls A ad ad0 B S T hT XX
  by_cases ha : args = #[.ref (X.2.2.1 1)] ∧ ∀ q, A q → s.heap.size ≤ q
  · obtain ⟨ha1, ha2⟩ := ha
    subst ha1
    have hw : W p l e room_1 s m #[Value.ref (X.2.2.1 1)] below meth c H locs kc ks (lw_Z below #[Value.ref (X.2.2.1 1)] s) (F0 m 1588 ls [.int 1]) := by
      refine W.base ?_
      refine va_forget (fun q hq => ha2 _ (S.2.1.2.2 q hq)) ?_
      refine W.widen hkc hks ?_
      exact lw_ret (Drawn.sameBut.refl s.drawn lw_cs) B.1.1 B.1.2.1 B.1.2.2.1 B.1.2.2.2.2.2.1 dL_law_1588
    obtain ⟨t, a, b⟩ := hw T hT XX
    exact ⟨t, a, fun _ _ => b⟩
  · exact ⟨_, Steps.refl _, fun h1 h2 => absurd ⟨h1, h2⟩ ha⟩
theorem a_tbIn {M : aM} {F : aPh} {kc ks pc : Nat} {L st : List Value} {h : List aCell} {dflt lo hi : Int} {offs : Array Int} {len : Nat} {x : Int32} {off : Int} (tgt : Nat) (hd : decode M.2.1 pc = .ok (.tableswitch dflt lo hi offs, len)) (h1 : ¬ x.toInt < lo) (h2 : ¬ hi < x.toInt) (ho : offs[(x.toInt - lo).toNat]? = some off) (ht : (pc : Int) + off = (tgt : Int)) (k : aJ l X M F kc ks tgt L st h) : aJ l X M F kc ks pc L (.int x :: st) h :=
  fun p e s m args below meth c H locs ls A ad ad0 B S => lv_tableIn B.1.1 B.1.2.1 hd h1 h2 ho ht (k p e s m args below meth c H locs ls A ad ad0 B S)
theorem a_tbOut {M : aM} {F : aPh} {kc ks pc : Nat} {L st : List Value} {h : List aCell} {dflt lo hi : Int} {offs : Array Int} {len : Nat} {x : Int32} (tgt : Nat) (hd : decode M.2.1 pc = .ok (.tableswitch dflt lo hi offs, len)) (h1 : x.toInt < lo ∨ hi < x.toInt) (ht : (pc : Int) + dflt = (tgt : Int)) (k : aJ l X M F kc ks tgt L st h) : aJ l X M F kc ks pc L (.int x :: st) h :=
  fun p e s m args below meth c H locs ls A ad ad0 B S => lv_tableOut B.1.1 B.1.2.1 hd h1 ht (k p e s m args below meth c H locs ls A ad ad0 B S)
theorem lw_loop (hl : l.stackTraces = false) (hX : aXok X) (hL : X.2.2.2.1 1 ≤ 1536) : ∀ (n i kc ks : Nat) (B : Int) (t : fT) (b : bT) (k : kT) (y : hT) (f : Int32) (v : sT) (u : uT) (km : kT) (q : qT) (o : Nat → Int64) (d : Nat → UInt64), X.2.2.2.1 1 ≤ i + 3 * n → i ≤ X.2.2.2.1 1 → kc + 8 * n ≤ 600000 → ks + 64 * n ≤ 7000000 → 0 ≤ B → B + 1000000 * n ≤ 1000000000 → aR B t b k y v u km q → aJ l X (mLw nm hh) ([], lG X) kc ks 28 (LV i) [] (aLw (aPT t b k y) (aMo f v u km q) (aLa 1 o) (aDa 1 d)) := by
  intro n
  induction n with
  | zero =>
    intro i kc ks B t b k y f v u km q o d h1 h2 h3 h4 h5 h6 R
    refine a_iload dL_law_28 rfl ?_
    refine a_xload_n dL_law_30 rfl ?_
    refine a_xlen (nI (X.2.2.2.1 1)) (by decide) dL_law_31 rfl ?_
    refine a_iconst 3 dL_law_32 (by decide) ?_
    refine a_isub dL_law_33 ?_
    refine a_icmp_gt 1587 dL_law_34 (by decide) (fun c34 => ?_) (fun c34 => ?_)
    · refine a_iconst 1 dL_law_1587 (by decide) ?_
      exact a_lend (by omega) (by omega)
    · have e : (nI (X.2.2.2.1 1) - 3).toInt = (X.2.2.2.1 1 : Int) - 3 := pk_sub_toInt (b := 3) (by omega) (by decide)
      rw [Int32.lt_iff_toInt_lt, e, nI_toInt (by omega)] at c34
      omega
  | succ n ih =>
    intro i kc ks B t b k y f v u km q o d h1 h2 h3 h4 h5 h6 R
    have e : (nI (X.2.2.2.1 1) - 3).toInt = (X.2.2.2.1 1 : Int) - 3 := pk_sub_toInt (b := 3) (by omega) (by decide)
    refine a_iload dL_law_28 rfl ?_
    refine a_xload_n dL_law_30 rfl ?_
    refine a_xlen (nI (X.2.2.2.1 1)) (by decide) dL_law_31 rfl ?_
    refine a_iconst 3 dL_law_32 (by decide) ?_
    refine a_isub dL_law_33 ?_
    refine a_icmp_gt 1587 dL_law_34 (by decide) (fun c34 => ?_) (fun c34 => ?_)
    · refine a_iconst 1 dL_law_1587 (by decide) ?_
      exact a_lend (by omega) (by omega)
    · rw [Int32.lt_iff_toInt_lt, e, nI_toInt (by omega)] at c34
      have hi : i + 2 < X.2.2.2.1 1 := by omega
      have hi0 : vp_in (nI i) (X.2.2.2.1 1) := vp_in_nI (by omega) (by omega)
      have nx : aNx l X nm hh (lG X) (kc + 8) (ks + 64) i (B + 1000000) := by
        intro t b k y f v u km q o d R
        refine a_iinc (nI (i + 3)) dL_law_1581 rfl (nI_add _ 3) (Nat.le_of_ble_eq_true rfl) rfl ?_
        refine a_goto 28 dL_law_1584 (by decide) ?_
        exact ih (i + 3) (kc + 8) (ks + 64) (B + 1000000) t b k y f v u km q o d (by omega) (by omega) (by omega) (by omega) (by omega) (by omega) R
      refine a_xload_n dL_law_37 rfl ?_
      refine a_iload dL_law_38 rfl ?_
      refine a_xald (by decide) dL_law_40 hi0 ?_
      refine a_bipush 31 dL_law_41 (by decide) ?_
      refine a_iand dL_law_43 ?_
      rw [nI_clamp (show i < 2 ^ 31 by omega)]
      obtain ⟨j, hj, ej⟩ := pk_andE (X.2.2.2.2 1 i) (m := 31) 5 (by decide)
      rw [ej]
      have hj' : j < 32 := hj
      have hc : j = 0 ∨ j = 1 ∨ j = 2 ∨ j = 3 ∨ j = 4 ∨ j = 5 ∨ j = 6 ∨ j = 7 ∨ j = 8 ∨ j = 9 ∨ j = 10 ∨ j = 11 ∨ j = 12 ∨ j = 13 ∨ j = 14 ∨ j = 15 ∨ j = 16 ∨ j = 17 ∨ j = 18 ∨ j = 19 ∨ j = 20 ∨ j = 21 ∨ j = 22 ∨ j = 23 ∨ j = 24 ∨ j = 25 ∨ j = 26 ∨ 26 < j := by omega
      rcases hc with rfl | rfl | rfl | rfl | rfl | rfl | rfl | rfl | rfl | rfl | rfl | rfl | rfl | rfl | rfl | rfl | rfl | rfl | rfl | rfl | rfl | rfl | rfl | rfl | rfl | rfl | rfl | hc
      · exact a_tbIn 168 dL_law_44 (by decide) (by decide) rfl (by decide) (s_reset hl hX hi hL (by omega) (by omega) h5 (by omega) R nx)
      · exact a_tbIn 224 dL_law_44 (by decide) (by decide) rfl (by decide) (s_serverAt hl hX hi hL (by omega) (by omega) h5 (by omega) R nx)
      · exact a_tbIn 280 dL_law_44 (by decide) (by decide) rfl (by decide) (s_disruption hl hX hi hL (by omega) (by omega) h5 (by omega) R nx)
      · exact a_tbIn 293 dL_law_44 (by decide) (by decide) rfl (by decide) (s_forcedDisruption hl hX hi hL (by omega) (by omega) h5 (by omega) R nx)
      · exact a_tbIn 306 dL_law_44 (by decide) (by decide) rfl (by decide) (s_imbalance hl hX hi hL (by omega) (by omega) h5 (by omega) R nx)
      · exact a_tbIn 347 dL_law_44 (by decide) (by decide) rfl (by decide) (s_addServer hl hX hi hL (by omega) (by omega) h5 (by omega) R nx)
      · exact a_tbIn 415 dL_law_44 (by decide) (by decide) rfl (by decide) (s_removeServer hl hX hi hL (by omega) (by omega) h5 (by omega) R nx)
      · exact a_tbIn 470 dL_law_44 (by decide) (by decide) rfl (by decide) (s_setWeight hl hX hi hL (by omega) (by omega) h5 (by omega) R nx)
      · exact a_tbIn 538 dL_law_44 (by decide) (by decide) rfl (by decide) (s_setUp hl hX hi hL (by omega) (by omega) h5 (by omega) R nx)
      · exact a_tbIn 629 dL_law_44 (by decide) (by decide) rfl (by decide) (s_serverCount hl hX hi hL (by omega) (by omega) h5 (by omega) R nx)
      · exact a_tbIn 642 dL_law_44 (by decide) (by decide) rfl (by decide) (s_serverNamed hl hX hi hL (by omega) (by omega) h5 (by omega) R nx)
      · exact a_tbIn 698 dL_law_44 (by decide) (by decide) rfl (by decide) (s_preference hl hX hi hL (by omega) (by omega) h5 (by omega) R nx)
      · exact a_tbIn 766 dL_law_44 (by decide) (by decide) rfl (by decide) (s_slotsOf hl hX hi hL (by omega) (by omega) h5 (by omega) R nx)
      · exact a_tbIn 822 dL_law_44 (by decide) (by decide) rfl (by decide) (s_idealShare hl hX hi hL (by omega) (by omega) h5 (by omega) R nx)
      · exact a_tbIn 899 dL_law_44 (by decide) (by decide) rfl (by decide) (s_removalDisruption hl hX hi hL (by omega) (by omega) h5 (by omega) R nx)
      · exact a_tbIn 955 dL_law_44 (by decide) (by decide) rfl (by decide) (s_serverOf hl hX hi hL (by omega) (by omega) h5 (by omega) R nx)
      · exact a_tbIn 1011 dL_law_44 (by decide) (by decide) rfl (by decide) (s_request hl hX hi hL (by omega) (by omega) h5 (by omega) R nx)
      · exact a_tbIn 1079 dL_law_44 (by decide) (by decide) rfl (by decide) (s_loadOf hl hX hi hL (by omega) (by omega) h5 (by omega) R nx)
      · exact a_tbIn 1134 dL_law_44 (by decide) (by decide) rfl (by decide) (s_rankedServer hl hX hi hL (by omega) (by omega) h5 (by omega) R nx)
      · exact a_tbIn 1190 dL_law_44 (by decide) (by decide) rfl (by decide) (s_pin hl hX hi hL (by omega) (by omega) h5 (by omega) R nx)
      · exact a_tbIn 1258 dL_law_44 (by decide) (by decide) rfl (by decide) (s_unpin hl hX hi hL (by omega) (by omega) h5 (by omega) R nx)
      · exact a_tbIn 1314 dL_law_44 (by decide) (by decide) rfl (by decide) (s_pinHottest hl hX hi hL (by omega) (by omega) h5 (by omega) R nx)
      · exact a_tbIn 1358 dL_law_44 (by decide) (by decide) rfl (by decide) (s_trackedKeys hl hX hi hL (by omega) (by omega) h5 (by omega) R nx)
      · exact a_tbIn 1371 dL_law_44 (by decide) (by decide) rfl (by decide) (s_hotKey hl hX hi hL (by omega) (by omega) h5 (by omega) R nx)
      · exact a_tbIn 1427 dL_law_44 (by decide) (by decide) rfl (by decide) (s_hotCount hl hX hi hL (by omega) (by omega) h5 (by omega) R nx)
      · exact a_tbIn 1482 dL_law_44 (by decide) (by decide) rfl (by decide) (s_hotError hl hX hi hL (by omega) (by omega) h5 (by omega) R nx)
      · exact a_tbIn 1537 dL_law_44 (by decide) (by decide) rfl (by decide) (s_undo hl hX hi hL (by omega) (by omega) h5 (by omega) R nx)
      · refine a_tbOut 1581 dL_law_44 (Or.inr ?_) (by decide) ?_
        · rw [nI_toInt (by omega)]; omega
        · refine a_wid (by omega) (by omega) (nx t b k y f v u km q o d ⟨R.1, R.2.1, R.2.2.1.weak (by omega), R.2.2.2.1, R.2.2.2.2.weak (by omega)⟩)
end LLP
