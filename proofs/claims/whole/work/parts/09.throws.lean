/-! ===== throws and handlers ===== -/
/-- the words of 'throw new cls(text)' in class own -/
def aTw (own : String) (ik ic : Nat) (cls : String) (names : List String) : Prop :=
  aQ (.classLink own ik cls) ∧ aQ (.initialized cls) ∧ (∀ w ∈ vx_atS own ic cls names, aQ w) ∧ (∀ w ∈ Cond.classLink own ik cls :: Cond.initialized cls :: vx_atS own ic cls names, vx_ot w = true) ∧ Bundle.fit cls = true ∧ ∀ n ∈ names, Bundle.fit n = true
section ATH
variable {l : Launch} {X : aX} {M : aM} {rs : List Nat} {Q : aQt} {kc ks pc : Nat} {L st : List Value} {h : List aCell}
theorem a_throw {ik ic is : Nat} {cls text : String} {names : List String} (hl : l.stackTraces = false) (hw : aTw M.1.cls ik ic cls names) (htx : Cond.stringRef M.1.cls is text ∈ lw_tbl) (hh : M.2.2.2.2.1 = [])
    (d0 : decode M.2.1 pc = .ok (.new ik, 3)) (d3 : decode M.2.1 (pc + 3) = .ok (.dup, 1)) (d4 : decode M.2.1 (pc + 4) = .ok (.ldc is, 2)) (d6 : decode M.2.1 (pc + 6) = .ok (.invokespecial ic, 3)) (d9 : decode M.2.1 (pc + 9) = .ok (.athrow, 1))
    (hR : names.length + 3 < M.2.2.2.2.2.1 ∧ (st.map fun v => v.category).sum + (13 * (names.length + 1) + 43) ≤ M.2.2.2.2.2.2.1) (hc : kc + 1 ≤ aMc M) (hs : ks + 6 ≤ aMs M) (hq : Q (.inr cls) h) : aJ l X M (aEd X M rs Q) kc ks pc L st h := by
  intro p e s m args below meth c H locs ls A ad ad0 B S
  obtain ⟨w1, w2, w3, w4, w5, w6⟩ := hw
  obtain ⟨sa, hsa⟩ := B.2.1.2.2.2.1 _ htx M.1.cls is text rfl
  have hout : ∀ x ∈ c.exceptionTable.toList, covers x (pc + 9) = false := by
    rw [B.1.2.2.2.2.2.2.2, hh]
    intro x hx
    cases hx
  refine vx_throwS (A := A) B.1.1 B.1.2.1 hl B.1.2.2.2.2.1 w5 w6 (B.2.1.1 _ w1 _) (B.2.1.1 _ w2 _) hsa (fun w hw => B.2.1.1 w (w3 w hw) _) w4 B.2.1.2.2.2.2.2.1 B.2.1.2.2.2.2.2.2.1 S.2.1 (S.2.2.2.1.trans B.1.2.2.2.1.symm) d0 d3 d4 d6 d9 hout hR.1 (by rw [aVs_cat]; exact hR.2) hc hs B.1.2.2.2.2.2.1 (fun t ht hz hk => ?_) S.2.1.2.2 hc hs
  refine ⟨⟨ad, h, hq, S.1, ⟨fun k q hq => ((S.2.2.1.1 k q hq).kept (hk q.1 (S.2.2.1.1 k q hq).lt)), S.2.2.1.2⟩⟩, Nat.le_trans S.2.1.1 hz, fun q h1 h2 => ?_⟩
  rw [hk q (Nat.lt_of_lt_of_le h1 S.2.1.1)]
  exact S.2.1.2.1 q h1 h2
/-- it goes on to the caller -/
theorem a_out {E : String} (hh : M.2.2.2.2.1 = []) (hc : kc ≤ aMc M) (hs : ks ≤ aMs M) (hq : Q (.inr E) h) : aT l X M (aEd X M rs Q) kc ks pc E L st h := by
  intro p e s m args below meth c H locs ls A ad ad0 q ce B S hce hcv hcl
  have hout : ∀ x ∈ c.exceptionTable.toList, covers x pc = false := by
    rw [B.1.2.2.2.2.2.2.2, hh]
    intro x hx
    cases hx
  refine vx_out hout B.1.2.2.2.2.2.1 hce hcv hcl (fun t ht hA => ?_) S.2.1.2.2 hc hs
  refine ⟨⟨ad, h, hq, S.1, by rw [ht]; exact S.2.2.1⟩, S.2.1.F ht⟩
end ATH
section ACT
variable {l : Launch} {X : aX} {M : aM} {F : aPh} {kc ks pc : Nat} {L st : List Value} {h : List aCell}
/-- the first handler takes it -/
theorem a_catch0 {E name : String} {x : Nat × Nat × Nat × Nat} {suf : List (Nat × Nat × Nat × Nat)} (hh : M.2.2.2.2.1 = x :: suf) (hcov : covers ⟨x.1, x.2.1, x.2.2.1, x.2.2.2⟩ pc = true) (h0 : x.2.2.2 ≠ 0) (hq : aQ (.classLink M.1.cls x.2.2.2 name)) (hca : aQ (.castable E name))
    (hok : (L.all (aVo (aBe h.length)) && ([] : List Value).all (aVo (aBe h.length)) && h.all (aCo (aBe h.length)) && F.1.all (aBe h.length)) = true) (k : aJ l X M F kc ks x.2.2.1 L [.ref h.length] h) : aT l X M F kc ks pc E L st h := by
  intro p e s m args below meth c H locs ls A ad ad0 q ce B S hce hcv hcl
  obtain ⟨u1, u2, u3, u4⟩ := S.up (q := q) (st := []) hok
  have hw := k p e s m args below meth c H locs ls A (aUp ad h.length q) ad0 B ⟨u1, S.2.1, by unfold aHp; rw [u2]; exact S.2.2.1, u3⟩
  have hv : [Value.ref h.length].map (aV X (aUp ad h.length q)) = [.ref q] := by
    show [Value.ref (aUp ad h.length q h.length)] = _
    unfold aUp; rw [if_pos rfl]
  rw [hv] at hw
  exact vx_catch B.1.2.2.2.2.1 [] ⟨x.1, x.2.1, x.2.2.1, x.2.2.2⟩ (tableOf suf) (by rw [B.1.2.2.2.2.2.2.2, hh]; rfl) (fun z hz => nomatch hz) hcov h0 (B.2.1.1 _ hq _) (B.2.1.1 _ hca _) hce hcv hcl hw
/-- the second handler takes it: an IllegalStateException past a handler of IllegalArgumentException -/
theorem a_catch1 {name : String} {y x : Nat × Nat × Nat × Nat} {suf : List (Nat × Nat × Nat × Nat)} (hh : M.2.2.2.2.1 = y :: x :: suf) (hy0 : y.2.2.2 ≠ 0) (hyq : aQ (.classLink M.1.cls y.2.2.2 "java/lang/IllegalArgumentException")) (hcov : covers ⟨x.1, x.2.1, x.2.2.1, x.2.2.2⟩ pc = true) (h0 : x.2.2.2 ≠ 0) (hq : aQ (.classLink M.1.cls x.2.2.2 name)) (hca : aQ (.castable "java/lang/IllegalStateException" name))
    (hok : (L.all (aVo (aBe h.length)) && ([] : List Value).all (aVo (aBe h.length)) && h.all (aCo (aBe h.length)) && F.1.all (aBe h.length)) = true) (k : aJ l X M F kc ks x.2.2.1 L [.ref h.length] h) : aT l X M F kc ks pc "java/lang/IllegalStateException" L st h := by
  intro p e s m args below meth c H locs ls A ad ad0 q ce B S hce hcv hcl
  obtain ⟨u1, u2, u3, u4⟩ := S.up (q := q) (st := []) hok
  have hw := k p e s m args below meth c H locs ls A (aUp ad h.length q) ad0 B ⟨u1, S.2.1, by unfold aHp; rw [u2]; exact S.2.2.1, u3⟩
  have hv : [Value.ref h.length].map (aV X (aUp ad h.length q)) = [.ref q] := by
    show [Value.ref (aUp ad h.length q h.length)] = _
    unfold aUp; rw [if_pos rfl]
  rw [hv] at hw
  refine vx_catch B.1.2.2.2.2.1 [⟨y.1, y.2.1, y.2.2.1, y.2.2.2⟩] ⟨x.1, x.2.1, x.2.2.1, x.2.2.2⟩ (tableOf suf) (by rw [B.1.2.2.2.2.2.2.2, hh]; rfl) (fun z hz => ?_) hcov h0 (B.2.1.1 _ hq _) (B.2.1.1 _ hca _) hce hcv hcl hw
  rw [List.mem_singleton.mp hz]
  exact Or.inr ⟨hy0, _, B.2.1.1 _ hyq _, B.2.1.2.2.2.2.1⟩
end ACT
/-! ===== shapes of contracts ===== -/
/-- it answers v and leaves all as it was -/
abbrev aRd (l : Launch) (X : aX) (M : aM) (rs : List Nat) (av : List Value) (h : List aCell) (v : Value) : Prop := aMt l X M rs av h (fun o h' => o = .inl (some v) ∧ h' = h)
/-- it answers v (or nothing) and leaves h1 -/
abbrev aWr (l : Launch) (X : aX) (M : aM) (rs : List Nat) (av : List Value) (h : List aCell) (v : Option Value) (h1 : List aCell) : Prop := aMt l X M rs av h (fun o h' => o = .inl v ∧ h' = h1)
theorem aMt.weak {l : Launch} {X : aX} {M : aM} {rs : List Nat} {av : List Value} {h : List aCell} {Q Q' : aQt} (hC : aMt l X M rs av h Q) (hq : ∀ o h', Q o h' → Q' o h') : aMt l X M rs av h Q' := by
  intro ad sz p e h1 h2 h3 s m args below hf ha hP hK
  obtain ⟨n, o, g1, g2, g3, g4⟩ := hC ad sz p e h1 h2 h3 s m args below hf ha hP hK
  refine ⟨n, o, g1, g2, g3, ?_⟩
  rcases g4 with ⟨⟨⟨v, ad', h', a1, a2, a3⟩, a4⟩, a5⟩ | ⟨q, hq0, E, ce, L, ⟨⟨ad', h', b1, b2⟩, b3⟩, b4⟩
  · exact Or.inl ⟨⟨⟨v, ad', h', a1, hq _ _ a2, a3⟩, a4⟩, a5⟩
  · exact Or.inr ⟨q, hq0, E, ce, L, ⟨⟨ad', h', hq _ _ b1, b2⟩, b3⟩, b4⟩
