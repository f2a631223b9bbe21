/-! ===== calls: the callee's picture is picked out of the caller's by places ===== -/
def aRi (d : Nat) : List Nat → Nat → Nat
  | [], t => d + t
  | a :: _, 0 => a
  | _ :: l, t + 1 => aRi d l t
def aIx : List Nat → Nat → Option Nat
  | [], _ => none
  | a :: l, j => if j = a then some 0 else (aIx l j).map (fun t => t + 1)
def aPush : List Value → List Value → List Value
  | [], r => r
  | v :: l, r => aPush l (v :: r)
theorem aPush_eq : ∀ (l r : List Value), aPush l r = l.reverse ++ r
  | [], r => rfl
  | v :: l, r => by rw [aPush, aPush_eq l (v :: r), List.reverse_cons, List.append_assoc]; rfl
theorem aRi_lt (d : Nat) : ∀ (is : List Nat) (t : Nat), t < is.length → is[t]? = some (aRi d is t)
  | [], t, h => absurd h (Nat.not_lt_zero _)
  | a :: l, 0, _ => rfl
  | a :: l, t + 1, h => by rw [List.getElem?_cons_succ]; exact aRi_lt d l t (Nat.lt_of_succ_lt_succ h)
theorem aRi_ge (d : Nat) : ∀ (is : List Nat) (t : Nat), is.length ≤ t → aRi d is t = d + (t - is.length)
  | [], t, _ => rfl
  | a :: l, 0, h => absurd h (Nat.not_succ_le_zero _)
  | a :: l, t + 1, h => by
    show aRi d l t = _
    rw [aRi_ge d l t (Nat.le_of_succ_le_succ h), List.length_cons, Nat.succ_sub_succ]
theorem aIx_some : ∀ (is : List Nat) (j t : Nat), aIx is j = some t → is[t]? = some j
  | [], j, t, h => by cases h
  | a :: l, j, t, h => by
    unfold aIx at h
    by_cases hj : j = a
    · rw [if_pos hj] at h
      cases h
      rw [hj]; rfl
    · rw [if_neg hj] at h
      cases hx : aIx l j with
      | none => rw [hx] at h; cases h
      | some u =>
        rw [hx] at h
        cases h
        rw [List.getElem?_cons_succ]
        exact aIx_some l j u hx
theorem aIx_mem : ∀ (is : List Nat) (j : Nat), j ∈ is → ∃ t, aIx is j = some t
  | [], j, h => by cases h
  | a :: l, j, h => by
    unfold aIx
    by_cases hj : j = a
    · exact ⟨0, if_pos hj⟩
    · rw [if_neg hj]
      obtain ⟨t, ht⟩ := aIx_mem l j ((List.mem_cons.mp h).resolve_left hj)
      exact ⟨t + 1, by rw [ht]; rfl⟩
theorem aIx_nd {is : List Nat} (hn : va_nd is = true) {j t : Nat} (h : is[t]? = some j) : aIx is j = some t := by
  obtain ⟨u, hu⟩ := aIx_mem is j (List.mem_of_getElem? h)
  rw [hu, va_nd_inj is hn u t j (aIx_some is j u hu) h]
/-- places that keep their address over the call -/
def aSb (is rs : List Nat) (n : Nat) : Nat → Bool := fun r => match aIx is r with
  | some t => rs.contains t
  | none => decide (r < n)
def aRs (is : List Nat) (p : Nat → Bool) : Nat → List aCell → Bool
  | _, [] => true
  | j, e :: l => (match aIx is j with | some _ => true | none => aCo p e) && aRs is p (j + 1) l
theorem aRs_get (is : List Nat) (p : Nat → Bool) : ∀ (l : List aCell) (i j : Nat) (e : aCell), aRs is p i l = true → l[j]? = some e → aIx is (i + j) = none → aCo p e = true
  | [], i, j, e, _, h, _ => by simp at h
  | x :: l, i, 0, e, hr, h, hx => by
    simp only [aRs, Bool.and_eq_true] at hr
    cases h
    rw [Nat.add_zero] at hx
    rw [hx] at hr
    exact hr.1
  | x :: l, i, j + 1, e, hr, h, hx => by
    simp only [aRs, Bool.and_eq_true] at hr
    exact aRs_get is p l (i + 1) j e hr.2 h (by rw [show i + 1 + j = i + (j + 1) by omega]; exact hx)
def aMg (h : List aCell) (is : List Nat) (h' : List aCell) : List aCell :=
  aMx (fun j e => match aIx is j with | some t => (match h'[t]? with | some e' => aRc (aRi h.length is) e' | none => e) | none => e) 0 h ++ (h'.drop is.length).map (aRc (aRi h.length is))
def aA2 (is : List Nat) (n : Nat) (ad ad' : Nat → Nat) : Nat → Nat := fun j => match aIx is j with
  | some t => ad' t
  | none => if j < n then ad j else ad' (j - n + is.length)
/-- the callee's picture hc is what lies in h at the places is -/
def aSel (h : List aCell) (is : List Nat) (hc : List aCell) : Prop := is.map (fun i => h[i]?) = hc.map (fun e => some (aRc (aRi h.length is) e))
theorem aSel.len {h : List aCell} {is : List Nat} {hc : List aCell} (hs : aSel h is hc) : is.length = hc.length := by
  have := congrArg List.length hs
  simpa using this
theorem aSel.at {h : List aCell} {is : List Nat} {hc : List aCell} (hs : aSel h is hc) {t : Nat} {e : aCell} (ht : hc[t]? = some e) : is[t]? = some (aRi h.length is t) ∧ h[aRi h.length is t]? = some (aRc (aRi h.length is) e) := by
  have hl : t < is.length := by rw [hs.len]; exact (List.getElem?_eq_some_iff.mp ht).1
  have h1 := aRi_lt h.length is t hl
  refine ⟨h1, ?_⟩
  have h2 : (is.map (fun i => h[i]?))[t]? = some (some (aRc (aRi h.length is) e)) := by
    rw [hs, List.getElem?_map, ht]; rfl
  rw [List.getElem?_map, h1] at h2
  exact Option.some.inj h2
theorem aSel.lt {h : List aCell} {is : List Nat} {hc : List aCell} (hs : aSel h is hc) : ∀ i ∈ is, i < h.length := by
  intro i hi
  obtain ⟨t, ht⟩ := List.getElem?_of_mem hi
  have hl : t < hc.length := by rw [← hs.len]; exact (List.getElem?_eq_some_iff.mp ht).1
  obtain ⟨h1, h2⟩ := hs.at (List.getElem?_eq_getElem hl)
  cases Option.some.inj (ht.symm.trans h1)
  exact (List.getElem?_eq_some_iff.mp h2).1
theorem aSel.w {X : aX} {ad : Nat → Nat} {h : List aCell} {is : List Nat} {hc : List aCell} (hs : aSel h is hc) {k : Nat} {q : Nat × va_E} (hk : (aW X (fun t => ad (aRi h.length is t)) hc)[k]? = some q) : is[k]? = some (aRi h.length is k) ∧ (aW X ad h)[aRi h.length is k]? = some q := by
  obtain ⟨e, he, rfl⟩ := aW_of hk
  obtain ⟨h1, h2⟩ := hs.at he
  refine ⟨h1, ?_⟩
  rw [aW_at h2, aRc_comp]
theorem aA2_ri {is : List Nat} {n : Nat} {ad ad' : Nat → Nat} (hn : va_nd is = true) (hlt : ∀ i ∈ is, i < n) (t : Nat) : aA2 is n ad ad' (aRi n is t) = ad' t := by
  by_cases hl : t < is.length
  · have h1 := aRi_lt n is t hl
    unfold aA2
    rw [aIx_nd hn h1]
  · have h1 := aRi_ge n is t (by omega)
    unfold aA2
    rw [h1]
    cases hx : aIx is (n + (t - is.length)) with
    | some u =>
      have := hlt _ (List.mem_of_getElem? (aIx_some is _ u hx))
      omega
    | none =>
      dsimp only
      rw [if_neg (by omega)]
      congr 1
      omega
theorem aA2_sb {is rs : List Nat} {n : Nat} {ad ad' : Nat → Nat} (hr : ∀ t ∈ rs, ad' t = ad (aRi n is t)) {r : Nat} (h : aSb is rs n r = true) : aA2 is n ad ad' r = ad r := by
  unfold aSb at h
  unfold aA2
  cases hx : aIx is r with
  | some t =>
    rw [hx] at h
    dsimp only at h ⊢
    rw [hr t (List.contains_iff_mem.mp h)]
    have h1 := aIx_some is r t hx
    have h2 := aRi_lt n is t (List.getElem?_eq_some_iff.mp h1).1
    rw [Option.some.inj (h2.symm.trans h1)]
  | none =>
    rw [hx] at h
    dsimp only at h ⊢
    rw [if_pos (of_decide_eq_true h)]
theorem aMg_get {h : List aCell} {is : List Nat} {h' : List aCell} (hle : is.length ≤ h'.length) (j : Nat) : (aMg h is h')[j]? = if j < h.length then (match aIx is j with | some t => (h'[t]?).map (aRc (aRi h.length is)) | none => h[j]?) else (h'[is.length + (j - h.length)]?).map (aRc (aRi h.length is)) := by
  unfold aMg
  by_cases hl : j < h.length
  · rw [if_pos hl, List.getElem?_append_left (by rw [aMx_len]; exact hl), aMx_get, Nat.zero_add]
    rw [List.getElem?_eq_getElem hl]
    cases hx : aIx is j with
    | none => simp
    | some t =>
      have h1 := (List.getElem?_eq_some_iff.mp (aIx_some is j t hx)).1
      have h2 : t < h'.length := by omega
      simp [List.getElem?_eq_getElem h2]
  · rw [if_neg hl, List.getElem?_append_right (by rw [aMx_len]; omega), aMx_len, List.getElem?_map, List.getElem?_drop]
theorem aMg_w {X : aX} {ad ad' : Nat → Nat} {h : List aCell} {is rs : List Nat} {h' hc : List aCell} (hs : aSel h is hc) (hn : va_nd is = true) (hle : is.length ≤ h'.length) (hr : ∀ t ∈ rs, ad' t = ad (aRi h.length is t)) (hk : aRs is (aSb is rs h.length) 0 h = true) {j : Nat} {q : Nat × va_E} (hq : (aW X (aA2 is h.length ad ad') (aMg h is h'))[j]? = some q) :
    (aIx is j = none ∧ (aW X ad h)[j]? = some q) ∨ (∃ t, (aW X ad' h')[t]? = some q ∧ j = aRi h.length is t) := by
  obtain ⟨e, he, rfl⟩ := aW_of hq
  rw [aMg_get hle] at he
  have hri : ∀ x, aA2 is h.length ad ad' (aRi h.length is x) = ad' x := aA2_ri hn hs.lt
  by_cases hl : j < h.length
  · rw [if_pos hl] at he
    cases hx : aIx is j with
    | none =>
      rw [hx] at he
      refine Or.inl ⟨rfl, ?_⟩
      rw [aW_at he]
      have h1 : aA2 is h.length ad ad' j = ad j := by unfold aA2; rw [hx]; exact if_pos hl
      rw [h1, aRc_congr (fun i hi => aA2_sb hr hi) (aRs_get is _ h 0 j e hk he (by rw [Nat.zero_add]; exact hx))]
    | some t =>
      rw [hx] at he
      dsimp only at he
      cases ht : h'[t]? with
      | none => rw [ht] at he; cases he
      | some e' =>
        rw [ht] at he
        cases he
        have h1 := aIx_some is j t hx
        have h2 := aRi_lt h.length is t (List.getElem?_eq_some_iff.mp h1).1
        have h3 : j = aRi h.length is t := Option.some.inj (h1.symm.trans h2)
        refine Or.inr ⟨t, ?_, h3⟩
        rw [aW_at ht, aRc_comp, h3, hri, show (fun i => aA2 is h.length ad ad' (aRi h.length is i)) = ad' from funext hri]
  · rw [if_neg hl] at he
    cases ht : h'[is.length + (j - h.length)]? with
    | none => rw [ht] at he; cases he
    | some e' =>
      rw [ht] at he
      cases he
      have h3 : j = aRi h.length is (is.length + (j - h.length)) := by
        rw [aRi_ge _ _ _ (by omega)]; omega
      refine Or.inr ⟨is.length + (j - h.length), ?_, h3⟩
      rw [aW_at ht, aRc_comp, show (fun i => aA2 is h.length ad ad' (aRi h.length is i)) = ad' from funext hri]
      rw [show aA2 is h.length ad ad' j = ad' (is.length + (j - h.length)) from (congrArg _ h3).trans (hri _)]
theorem aMg_hp {X : aX} {ad ad' : Nat → Nat} {h : List aCell} {is rs : List Nat} {h' hc : List aCell} {A : Nat → Prop} {H H1 : Heap} (hs : aSel h is hc) (hn : va_nd is = true) (hle : is.length ≤ h'.length) (hr : ∀ t ∈ rs, ad' t = ad (aRi h.length is t)) (hk : aRs is (aSb is rs h.length) 0 h = true)
    (hp : aHp X ad h A H) (hF : ∀ q, va_A (aW X (fun t => ad (aRi h.length is t)) hc) H.size q → A q) (hp1 : aHp X ad' h' (va_A (aW X (fun t => ad (aRi h.length is t)) hc) H.size) H1)
    (hk1 : ∀ q : Nat, q < H.size → ¬ va_A (aW X (fun t => ad (aRi h.length is t)) hc) H.size q → H1[q]? = H[q]?) : aHp X (aA2 is h.length ad ad') (aMg h is h') A H1 := by
  have apart : ∀ (j : Nat) (q : Nat × va_E), aIx is j = none → (aW X ad h)[j]? = some q → ¬ va_A (aW X (fun t => ad (aRi h.length is t)) hc) H.size q.1 := by
    intro j q hx hq ha
    rcases ha with ⟨k, e, hk⟩ | hz
    · obtain ⟨h1, h2⟩ := hs.w hk
      have := hp.2.1 j _ q (q.1, e) hq h2 rfl
      subst this
      obtain ⟨t, ht⟩ := aIx_mem is _ (List.mem_of_getElem? h1)
      rw [hx] at ht
      cases ht
    · have := (hp.1 j q hq).lt
      omega
  refine ⟨fun j q hq => ?_, fun i j x y hi hj hxy => ?_, fun j q hq => ?_⟩
  · rcases aMg_w hs hn hle hr hk hq with ⟨h1, h2⟩ | ⟨t, h1, -⟩
    · exact (hp.1 j q h2).kept (hk1 q.1 (hp.1 j q h2).lt (apart j q h1 h2))
    · exact hp1.1 t q h1
  · rcases aMg_w hs hn hle hr hk hi with ⟨a1, a2⟩ | ⟨t, a1, a2⟩ <;> rcases aMg_w hs hn hle hr hk hj with ⟨b1, b2⟩ | ⟨u, b1, b2⟩
    · exact hp.2.1 i j x y a2 b2 hxy
    · exact absurd (by rw [hxy]; exact hp1.2.2 u y b1) (apart i x a1 a2)
    · exact absurd (by rw [← hxy]; exact hp1.2.2 t x a1) (apart j y b1 b2)
    · rw [a2, b2, hp1.2.1 t u x y a1 b1 hxy]
  · rcases aMg_w hs hn hle hr hk hq with ⟨h1, h2⟩ | ⟨t, h1, -⟩
    · exact hp.2.2 j q h2
    · exact hF _ (hp1.2.2 t q h1)
/-- a callee that changes nothing leaves the picture as it is -/
theorem aMg_id {h : List aCell} {is hc} (hs : aSel h is hc) (hn : va_nd is = true) : aMg h is hc = h := by
  apply List.ext_getElem?
  intro j
  rw [aMg_get (by rw [hs.len]; exact Nat.le_refl _)]
  by_cases hl : j < h.length
  · rw [if_pos hl]
    cases hx : aIx is j with
    | none => rfl
    | some t =>
      have h1 := aIx_some is j t hx
      have h3 : t < hc.length := by rw [← hs.len]; exact (List.getElem?_eq_some_iff.mp h1).1
      obtain ⟨g1, g2⟩ := hs.at (List.getElem?_eq_getElem h3)
      have h2 : j = aRi h.length is t := Option.some.inj (h1.symm.trans g1)
      dsimp only
      rw [List.getElem?_eq_getElem h3, h2, g2]
      rfl
  · rw [if_neg hl, List.getElem?_eq_none (l := h) (by omega), List.getElem?_eq_none (by rw [hs.len]; omega)]
    rfl
/-- what the caller must keep over a call: its locals, its stack, its other cells, its roots -/
abbrev aKeep (is rs : List Nat) (n : Nat) (L rest : List Value) (h : List aCell) (rs0 : List Nat) : Bool := L.all (aVo (aSb is rs n)) && rest.all (aVo (aSb is rs n)) && aRs is (aSb is rs n) 0 h && rs0.all (aSb is rs n)
section ACL
variable {l : Launch} {X : aX} {M M' : aM} {F : aPh} {kc ks pc : Nat} {L st rest av : List Value} {h hc : List aCell} {rs is : List Nat} {Q : aQt}
/-- the room and the words of a call -/
theorem a_run (hs : aSel h is hc) (hn : va_nd is = true) (hkeep : aKeep is rs h.length L rest h F.1 = true)
    (run : ∀ (p : Program) (e : Env) (s : State) (m : MethodId) (args : Array Value) (below : List Frame) (meth : Method) (c : Code) (H : Heap) (locs : List Loc) (ls : Array Slot) (A : Nat → Prop) (ad ad0 : Nat → Nat), aBs X M p s m meth c A → aPt X M F.1 A s.heap ad0 L h ad H locs ls →
      ∃ args' : Array Value, vx_Run p l e (aRm M) s m args below meth c H locs kc ks (aMc M') (aMs M') (F0 m pc ls (st.map (aV X ad))) (rest.map (aV X ad)) (aQc X rs (fun t => ad (aRi h.length is t)) (va_A (aW X (fun t => ad (aRi h.length is t)) hc) H.size) Q args') (aXc X rs (fun t => ad (aRi h.length is t)) (va_A (aW X (fun t => ad (aRi h.length is t)) hc) H.size) Q) (va_A (aW X (fun t => ad (aRi h.length is t)) hc) H.size))
    (kx : ∀ (E : String) (h' : List aCell), Q (.inr E) h' → is.length ≤ h'.length ∧ aT l X M F (kc + aMc M') (ks + aMs M') pc E L rest (aMg h is h'))
    (kk : ∀ (v : Option Value) (h' : List aCell), Q (.inl v) h' → is.length ≤ h'.length ∧ aJ l X M F (kc + aMc M') (ks + aMs M') (pc + 3) L ((v.map (aRv (aRi h.length is))).toList ++ rest) (aMg h is h')) : aJ l X M F kc ks pc L st h := by
  intro p e s m args below meth c H locs ls A ad ad0 B S T hT Xs
  obtain ⟨args', hr⟩ := run p e s m args below meth c H locs ls A ad ad0 B S
  simp only [aKeep, Bool.and_eq_true] at hkeep
  obtain ⟨⟨⟨hkL, hkR⟩, hkH⟩, hk0⟩ := hkeep
  have hFr : ∀ q, va_A (aW X (fun t => ad (aRi h.length is t)) hc) H.size q → A q := by
    intro q hq
    rcases hq with ⟨k, e9, hk⟩ | hz
    · exact S.2.2.1.2.2 _ _ (hs.w hk).2
    · exact B.2.2 q (Nat.le_trans S.2.1.1 hz)
  rcases hr T hT Xs with ⟨v, st₀, t, T', Lc, h0, X', hL, e1, e2, ⟨⟨v', ad', h', hv, hQ, hro, hp1⟩, hF⟩, sts⟩ | ⟨q, st₀, t, T', Lc, E, ce, h0, X', hL, e1, e2, ⟨⟨ad', h', hQ, hro, hp1⟩, hF⟩, hce, hcv, hcl, sts⟩
  · cases hv
    obtain ⟨k1, k2, k3⟩ := vx_keep h0 e1 S.2.1 (fun q _ hq => hFr q hq) hFr hL hF
    obtain ⟨hle, kj⟩ := kk v' h' hQ
    rw [← e1] at hp1
    have hpm := aMg_hp hs hn hle hro hkH S.2.2.1 hFr hp1 k2
    have hsb : ∀ i, aSb is rs h.length i = true → aA2 is h.length ad ad' i = ad i := fun i hi => aA2_sb hro hi
    have hw := kj p e s m args below meth c T'.heap (locs ++ Lc) ls A (aA2 is h.length ad ad') ad0 B ⟨fun i hi => by rw [hsb i (List.all_eq_true.mp hk0 i hi)]; exact S.1 i hi, k3, hpm, S.2.2.2.1, S.2.2.2.2.1, fun i w hi hv => by rw [aV_congr hsb (List.all_eq_true.mp hkL w (List.mem_of_getElem? hi))]; exact S.2.2.2.2.2 i w hi hv⟩
    have hst : ((v'.map (aRv (aRi h.length is))).toList ++ rest).map (aV X (aA2 is h.length ad ad')) = (v'.map (aV X ad')).toList ++ rest.map (aV X ad) := by
      rw [List.map_append, aVs_congr hsb hkR]
      congr 1
      cases v' with
      | none => rfl
      | some w =>
        show [aV X (aA2 is h.length ad ad') (aRv (aRi h.length is) w)] = [aV X ad' w]
        unfold aV
        rw [aRv_comp, show (fun i => aA2 is h.length ad ad' (aRi h.length is i)) = ad' from funext (aA2_ri hn hs.lt)]
    rw [hst] at hw
    obtain ⟨t2, a1, b1⟩ := hw T' rfl X'
    exact ⟨t2, sts t2 a1, b1⟩
  · obtain ⟨k1, k2, k3⟩ := vx_keep h0 e1 S.2.1 (fun q _ hq => hFr q hq) hFr hL hF
    obtain ⟨hle, kj⟩ := kx E h' hQ
    rw [← e1] at hp1
    have hpm := aMg_hp hs hn hle hro hkH S.2.2.1 hFr hp1 k2
    have hsb : ∀ i, aSb is rs h.length i = true → aA2 is h.length ad ad' i = ad i := fun i hi => aA2_sb hro hi
    have hw := kj p e s m args below meth c T'.heap (locs ++ Lc) ls A (aA2 is h.length ad ad') ad0 q ce B ⟨fun i hi => by rw [hsb i (List.all_eq_true.mp hk0 i hi)]; exact S.1 i hi, k3, hpm, S.2.2.2.1, S.2.2.2.2.1, fun i w hi hv => by rw [aV_congr hsb (List.all_eq_true.mp hkL w (List.mem_of_getElem? hi))]; exact S.2.2.2.2.2 i w hi hv⟩ (by rw [e1]; exact hce) hcv hcl
    rw [aVs_congr hsb hkR] at hw
    obtain ⟨t2, a1, b1⟩ := hw T' rfl X'
    exact ⟨t2, sts.trans a1, b1⟩
/-- a callee's own words -/
def aCb (M' : aM) (n : Nat) : Prop := aQ (aCd M') ∧ aQ (.initialized M'.1.cls) ∧ (M'.1.cls ≠ "java/lang/invoke/MethodHandle" ∧ M'.1.cls ≠ "java/lang/invoke/VarHandle") ∧ (parseMethodDescriptor M'.1.desc).map (fun d => d.parameters.length) = some n
theorem aCb.par {M' : aM} {n : Nat} (h : aCb M' n) : ∀ sig, parseMethodDescriptor M'.1.desc = some sig → n = sig.parameters.length := fun sig hs => by
  have := h.2.2.2
  rw [hs] at this
  exact (Option.some.inj this).symm
theorem aPre {X : aX} {h hc : List aCell} {is : List Nat} {av : List Value} {A : Nat → Prop} {s : State} {H : Heap} {ad : Nat → Nat} {locs : List Loc} (hs : aSel h is hc) (hn : va_nd is = true) (hE : aEn X A s s.heap) (hA : ∀ q, s.heap.size ≤ q → A q) (hS : va_S A s.heap H locs) (hp : aHp X ad h A H) (U : State) (hU : U.heap = H) (hW : s.WarmedH U.vm) :
    va_Pc (av.map (aV X (fun t => ad (aRi h.length is t)))) (fun U => U.heap.size = H.size ∧ va_P X.1 vwCl (aW X (fun t => ad (aRi h.length is t)) hc) U.heap ∧ va_D (fun _ => True) (aW X (fun t => ad (aRi h.length is t)) hc) ∧ aEn X (va_A (aW X (fun t => ad (aRi h.length is t)) hc) H.size) U U.heap) (av.map (aV X (fun t => ad (aRi h.length is t)))).toArray U := by
  refine ⟨rfl, by rw [hU], fun k q hk => ?_, ⟨fun i j x y hi hj hxy => ?_, fun _ _ _ => trivial⟩, ?_⟩
  · rw [hU]; exact hp.1 _ _ (hs.w hk).2
  · obtain ⟨a1, a2⟩ := hs.w hi
    obtain ⟨b1, b2⟩ := hs.w hj
    have := hp.2.1 _ _ x y a2 b2 hxy
    rw [← this] at b1
    exact va_nd_inj is hn i j _ a1 b1
  · rw [hU]
    refine ((hE.kept hS.2.1).narrow fun q hq => ?_).warm hW
    rcases hq with ⟨k, e9, hk⟩ | hz
    · exact hp.2.2 _ _ (hs.w hk).2
    · exact hA q (Nat.le_trans hS.1 hz)
theorem aBlind {X : aX} {w : va_W} {sz : Nat} {av : List Value} {A : Nat → Prop} : FrameBlind (va_Pc av (fun U => U.heap.size = sz ∧ va_P X.1 vwCl w U.heap ∧ va_D (fun _ => True) w ∧ aEn X A U U.heap)) := by
  intro a U g mk hp
  obtain ⟨h1, h2, h3, h4, h5⟩ := hp
  exact ⟨h1, h2, h3, h4, aEn.warm (u := U) (U := U.calling g mk a) (State.WarmedH.refl U) h5⟩
theorem aStk {X : aX} {ad : Nat → Nat} {f : Nat → Nat} {st av rest : List Value} (h : st = aPush (av.map (aRv f)) rest) : st.map (aV X ad) = (av.map (aV X (fun t => ad (f t)))).reverse ++ rest.map (aV X ad) := by
  rw [h, aPush_eq, List.map_append, List.map_reverse, List.map_map]
  congr 2
  apply List.map_congr_left
  intro v _
  show aCv X (aRv ad (aRv f v)) = aCv X (aRv (fun t => ad (f t)) v)
  rw [aRv_comp]
theorem aMt.met {rs : List Nat} (hC : aMt l X M' rs av hc Q) (hno : ∀ E h', ¬ Q (.inr E) h') (ad : Nat → Nat) (sz : Nat) : Met l M'.1 [aCd M'] (aRm M') (va_Pc (av.map (aV X ad)) (fun U => U.heap.size = sz ∧ va_P X.1 vwCl (aW X ad hc) U.heap ∧ va_D (fun _ => True) (aW X ad hc) ∧ aEn X (va_A (aW X ad hc) sz) U U.heap)) (aQc X rs ad (va_A (aW X ad hc) sz) Q) (aMc M') (aMs M') (va_A (aW X ad hc) sz) := by
  intro p e h1 h2 h3 s m args below hf ha hP hK
  obtain ⟨n, o, g1, g2, g3, g4⟩ := hC ad sz p e h1 h2 h3 s m args below hf ha hP hK
  rcases g4 with g4 | ⟨q, -, E, ce, L, ⟨⟨ad', h', hx, -⟩, -⟩, -⟩
  · exact ⟨n, o, g1, g2, g3, g4⟩
  · exact absurd hx (hno E h')
theorem aCalB {s : State} {args : Array Value} {n idx : Nat} (hb : aCb M' n) (hh : M'.2.2.2.2.1 = []) (hq : aQ (.methodLink M.1.cls idx M'.1)) (hT : aTb s) (hR : M'.2.2.2.2.2.1 + 1 ≤ M.2.2.2.2.2.1 ∧ 8 + (M'.2.2.1 + 11) + M'.2.2.2.2.2.2.1 ≤ M.2.2.2.2.2.2.1) : CallB (aRm M) s args M.1.cls idx M'.1 M'.2.1 M'.2.2.1 M'.2.2.2.1 [aCd M'] (aRm M') (aMc M') (aMs M') n := by
  have hcd : aCd M' = .code M'.1 M'.2.1 M'.2.2.1 M'.2.2.2.1 := by unfold aCd; rw [hh]
  refine ⟨rfl, rfl, hR.1, hR.2, fun w hw a' U hW => ?_, by rw [hcd]; exact List.mem_cons_self, by rw [← hcd]; exact hT _ hb.1 _, hT _ hb.2.1 _, hb.2.2.1, hb.par, hT _ hq _⟩
  rw [List.mem_singleton.mp hw]
  exact (hT.warm hW) _ hb.1 _
/-- invokevirtual -/
theorem a_callV {n idx ci : Nat} {C : String} {T : u_T} {N : Nat} {fs : List Value} {b : Nat} {As : List Value} (hC : aMt l X M' rs av hc Q) (hb : aCb M' n) (hh : M'.2.2.2.2.1 = []) (hq : aQ (.methodLink M.1.cls idx M'.1)) (hq2 : aQ (.instanceMethod M'.1)) (hq3 : aQ (.selects M'.1.cls M'.1 M'.1))
    (hav : av = .ref b :: As) (hnn : As.length = n) (hrc : hc[b]? = some (aOb ci fs)) (hcl : vwCl[ci]? = some (M'.1.cls, T, N))
    (hs : aSel h is hc) (hn : va_nd is = true) (hst : st = aPush (av.map (aRv (aRi h.length is))) rest) (hkeep : aKeep is rs h.length L rest h F.1 = true) (hcat : (rest.map fun v => v.category).sum ≤ 8)
    (hR : M'.2.2.2.2.2.1 + 1 ≤ M.2.2.2.2.2.1 ∧ 8 + (M'.2.2.1 + 11) + M'.2.2.2.2.2.2.1 ≤ M.2.2.2.2.2.2.1) (hf : kc + aMc M' ≤ aMc M ∧ ks + aMs M' ≤ aMs M) (hd : decode M.2.1 pc = .ok (.invokevirtual idx, 3))
    (kx : ∀ (E : String) (h' : List aCell), Q (.inr E) h' → is.length ≤ h'.length ∧ aT l X M F (kc + aMc M') (ks + aMs M') pc E L rest (aMg h is h'))
    (kk : ∀ (v : Option Value) (h' : List aCell), Q (.inl v) h' → is.length ≤ h'.length ∧ aJ l X M F (kc + aMc M') (ks + aMs M') (pc + 3) L ((v.map (aRv (aRi h.length is))).toList ++ rest) (aMg h is h')) : aJ l X M F kc ks pc L st h := by
  refine a_run hs hn hkeep (fun p e s m args below meth c H locs ls A ad ad0 B S => ?_) kx kk
  subst hav
  have hrecv : ∃ cell : Cell, H[ad (aRi h.length is b)]? = some cell ∧ cell.vm.isStatics = false ∧ s.vm.findClass M'.1.cls = some cell.cls := by
    obtain ⟨g1, g2⟩ := hs.at hrc
    exact va_recv (q := (M'.1.cls, T, N)) B.2.1.2.1 S.2.2.1.1 hcl (aW_at g2)
  exact ⟨_, vx_runV (C := M'.1.cls) (b := ad (aRi h.length is b)) (As := As.map (aV X (fun t => ad (aRi h.length is t)))) (Ts := []) ⟨B.1.1, B.1.2.1, B.1.2.2.2.1, B.1.2.2.2.2.1, fun w hw => nomatch hw⟩ (hC (fun t => ad (aRi h.length is t)) H.size) ⟨aCalB hb hh hq B.2.1.1 hR, B.2.1.1 _ hq2 _, B.2.1.1 _ hq3 _⟩
    ⟨aBlind, hrecv, fun U hU hW => aPre (av := .ref b :: As) hs hn B.2.1 B.2.2 S.2.1 S.2.2.1 U hU hW⟩ rfl (by rw [List.length_map]; exact hnn) S.2.2.2.1 ((aStk hst).trans (by simp [aV, aRv, aCv])) (lv_room (by rw [aVs_cat]; exact hcat)) hd hf⟩
/-- invokestatic -/
theorem a_callS {n idx : Nat} (hC : aMt l X M' rs av hc Q) (hb : aCb M' n) (hh : M'.2.2.2.2.1 = []) (hq : aQ (.methodLink M.1.cls idx M'.1)) (hq2 : aQ (.static M'.1)) (hnn : av.length = n)
    (hs : aSel h is hc) (hn : va_nd is = true) (hst : st = aPush (av.map (aRv (aRi h.length is))) rest) (hkeep : aKeep is rs h.length L rest h F.1 = true) (hcat : (rest.map fun v => v.category).sum ≤ 8)
    (hR : M'.2.2.2.2.2.1 + 1 ≤ M.2.2.2.2.2.1 ∧ 8 + (M'.2.2.1 + 11) + M'.2.2.2.2.2.2.1 ≤ M.2.2.2.2.2.2.1) (hf : kc + aMc M' ≤ aMc M ∧ ks + aMs M' ≤ aMs M) (hd : decode M.2.1 pc = .ok (.invokestatic idx, 3))
    (kx : ∀ (E : String) (h' : List aCell), Q (.inr E) h' → is.length ≤ h'.length ∧ aT l X M F (kc + aMc M') (ks + aMs M') pc E L rest (aMg h is h'))
    (kk : ∀ (v : Option Value) (h' : List aCell), Q (.inl v) h' → is.length ≤ h'.length ∧ aJ l X M F (kc + aMc M') (ks + aMs M') (pc + 3) L ((v.map (aRv (aRi h.length is))).toList ++ rest) (aMg h is h')) : aJ l X M F kc ks pc L st h := by
  refine a_run hs hn hkeep (fun p e s m args below meth c H locs ls A ad ad0 B S => ?_) kx kk
  exact ⟨_, vx_runS (As := av.map (aV X (fun t => ad (aRi h.length is t)))) (Ts := []) ⟨B.1.1, B.1.2.1, B.1.2.2.2.1, B.1.2.2.2.2.1, fun w hw => nomatch hw⟩ (hC (fun t => ad (aRi h.length is t)) H.size) ⟨aCalB hb hh hq B.2.1.1 hR, B.2.1.1 _ hq2 _⟩
    ⟨aBlind, fun U hU hW => aPre (av := av) hs hn B.2.1 B.2.2 S.2.1 S.2.2.1 U hU hW⟩ rfl (by rw [List.length_map]; exact hnn) S.2.2.2.1 (aStk hst) (lv_room (by rw [aVs_cat]; exact hcat)) hd hf⟩
/-- invokespecial of a constructor that doesn't throw -/
theorem a_callI {n idx : Nat} {b : Nat} {As : List Value} (hC : aMt l X M' rs av hc Q) (hno : ∀ E h', ¬ Q (.inr E) h') (hb : aCb M' n) (hh : M'.2.2.2.2.1 = []) (hre : M'.2.2.2.1 = none) (hq : aQ (.methodLink M.1.cls idx M'.1)) (hq2 : aQ (.instanceMethod M'.1)) (hnm : M'.1.name = "<init>") (hav : av = .ref b :: As) (hnn : As.length = n)
    (hs : aSel h is hc) (hn : va_nd is = true) (hst : st = aPush (av.map (aRv (aRi h.length is))) rest) (hkeep : aKeep is rs h.length L rest h F.1 = true) (hcat : (rest.map fun v => v.category).sum ≤ 8)
    (hR : M'.2.2.2.2.2.1 + 1 ≤ M.2.2.2.2.2.1 ∧ 8 + (M'.2.2.1 + 11) + M'.2.2.2.2.2.2.1 ≤ M.2.2.2.2.2.2.1) (hf : kc + aMc M' ≤ aMc M ∧ ks + aMs M' ≤ aMs M) (hd : decode M.2.1 pc = .ok (.invokespecial idx, 3))
    (kk : ∀ (v : Option Value) (h' : List aCell), Q (.inl v) h' → is.length ≤ h'.length ∧ aJ l X M F (kc + aMc M') (ks + aMs M') (pc + 3) L ((v.map (aRv (aRi h.length is))).toList ++ rest) (aMg h is h')) : aJ l X M F kc ks pc L st h := by
  refine a_run hs hn hkeep (fun p e s m args below meth c H locs ls A ad ad0 B S => ?_) (fun E h' hx => absurd hx (hno E h')) kk
  subst hav
  have hcb := aCalB (M := M) (args := args) hb hh hq B.2.1.1 hR
  rw [hre] at hcb
  have hr := va_runI (p := p) (e := e) (below := below) (meth := meth) (locs := locs) (cells := kc) (slots := ks) (g := F0 m pc ls (st.map (aV X ad))) (rest := rest.map (aV X ad)) (b := ad (aRi h.length is b)) (As := As.map (aV X (fun t => ad (aRi h.length is t)))) (Ts := []) ⟨B.1.1, B.1.2.1, B.1.2.2.2.1, B.1.2.2.2.2.1, fun w hw => nomatch hw⟩ (hC.met hno (fun t => ad (aRi h.length is t)) H.size) ⟨hcb, hnm, B.2.1.1 _ hq2 _⟩
    ⟨aBlind, fun U hU hW => aPre (av := .ref b :: As) hs hn B.2.1 B.2.2 S.2.1 S.2.2.1 U hU hW⟩ rfl (by rw [List.length_map]; exact hnn) S.2.2.2.1 ((aStk hst).trans (by simp [aV, aRv, aCv])) (lv_room (by rw [aVs_cat]; exact hcat)) hd hf
  exact ⟨_, fun T hT XX => Or.inl (hr T hT XX)⟩
/-- .. of a nest mate's -/
theorem a_callIN {n idx : Nat} {host : String} {b : Nat} {As : List Value} (hC : aMt l X M' rs av hc Q) (hno : ∀ E h', ¬ Q (.inr E) h') (hb : aCb M' n) (hh : M'.2.2.2.2.1 = []) (hre : M'.2.2.2.1 = none) (hq : aQ (.methodLinkNest M.1.cls idx M'.1 host)) (hq2 : aQ (.instanceMethod M'.1)) (hnm : M'.1.name = "<init>") (hav : av = .ref b :: As) (hnn : As.length = n)
    (hs : aSel h is hc) (hn : va_nd is = true) (hst : st = aPush (av.map (aRv (aRi h.length is))) rest) (hkeep : aKeep is rs h.length L rest h F.1 = true) (hcat : (rest.map fun v => v.category).sum ≤ 8)
    (hR : M'.2.2.2.2.2.1 + 1 ≤ M.2.2.2.2.2.1 ∧ 8 + (M'.2.2.1 + 11) + M'.2.2.2.2.2.2.1 ≤ M.2.2.2.2.2.2.1) (hf : kc + aMc M' ≤ aMc M ∧ ks + aMs M' ≤ aMs M) (hd : decode M.2.1 pc = .ok (.invokespecial idx, 3))
    (kk : ∀ (v : Option Value) (h' : List aCell), Q (.inl v) h' → is.length ≤ h'.length ∧ aJ l X M F (kc + aMc M') (ks + aMs M') (pc + 3) L ((v.map (aRv (aRi h.length is))).toList ++ rest) (aMg h is h')) : aJ l X M F kc ks pc L st h := by
  refine a_run hs hn hkeep (fun p e s m args below meth c H locs ls A ad ad0 B S => ?_) (fun E h' hx => absurd hx (hno E h')) kk
  subst hav
  have hcd : aCd M' = .code M'.1 M'.2.1 M'.2.2.1 none := by unfold aCd; rw [hh, hre]
  have hcn : va_CN (aRm M) s args M.1.cls idx M'.1 host M'.2.1 M'.2.2.1 none [aCd M'] (aRm M') (aMc M') (aMs M') n := by
    refine ⟨⟨rfl, rfl, hR.1, hR.2, fun w hw a' U hW => ?_, by rw [hcd]; exact List.mem_cons_self⟩, by rw [← hcd]; exact B.2.1.1 _ hb.1 _, B.2.1.1 _ hb.2.1 _, hb.2.2.1, hb.par, B.2.1.1 _ hq _⟩
    rw [List.mem_singleton.mp hw]
    exact (B.2.1.1.warm hW) _ hb.1 _
  have hr := va_runIN (p := p) (e := e) (below := below) (meth := meth) (locs := locs) (cells := kc) (slots := ks) (g := F0 m pc ls (st.map (aV X ad))) (rest := rest.map (aV X ad)) (b := ad (aRi h.length is b)) (As := As.map (aV X (fun t => ad (aRi h.length is t)))) (Ts := []) ⟨B.1.1, B.1.2.1, B.1.2.2.2.1, B.1.2.2.2.2.1, fun w hw => nomatch hw⟩ (hC.met hno (fun t => ad (aRi h.length is t)) H.size) ⟨hcn, hnm, B.2.1.1 _ hq2 _⟩
    ⟨aBlind, fun U hU hW => aPre (av := .ref b :: As) hs hn B.2.1 B.2.2 S.2.1 S.2.2.1 U hU hW⟩ rfl (by rw [List.length_map]; exact hnn) S.2.2.2.1 ((aStk hst).trans (by simp [aV, aRv, aCv])) (lv_room (by rw [aVs_cat]; exact hcat)) hd hf
  exact ⟨_, fun T hT XX => Or.inl (hr T hT XX)⟩
/-- a nest mate's private static method that doesn't throw -/
theorem a_callSN {n idx : Nat} {host : String} (hC : aMt l X M' rs av hc Q) (hno : ∀ E h', ¬ Q (.inr E) h') (hb : aCb M' n) (hh : M'.2.2.2.2.1 = []) (hq : aQ (.methodLinkNest M.1.cls idx M'.1 host)) (hq2 : aQ (.static M'.1)) (hnn : av.length = n)
    (hs : aSel h is hc) (hn : va_nd is = true) (hst : st = aPush (av.map (aRv (aRi h.length is))) rest) (hkeep : aKeep is rs h.length L rest h F.1 = true) (hcat : (rest.map fun v => v.category).sum ≤ 8)
    (hR : M'.2.2.2.2.2.1 + 1 ≤ M.2.2.2.2.2.1 ∧ 8 + (M'.2.2.1 + 11) + M'.2.2.2.2.2.2.1 ≤ M.2.2.2.2.2.2.1) (hf : kc + aMc M' ≤ aMc M ∧ ks + aMs M' ≤ aMs M) (hd : decode M.2.1 pc = .ok (.invokestatic idx, 3))
    (kk : ∀ (v : Option Value) (h' : List aCell), Q (.inl v) h' → is.length ≤ h'.length ∧ aJ l X M F (kc + aMc M') (ks + aMs M') (pc + 3) L ((v.map (aRv (aRi h.length is))).toList ++ rest) (aMg h is h')) : aJ l X M F kc ks pc L st h := by
  refine a_run hs hn hkeep (fun p e s m args below meth c H locs ls A ad ad0 B S => ?_) (fun E h' hx => absurd hx (hno E h')) kk
  have hcd : aCd M' = .code M'.1 M'.2.1 M'.2.2.1 M'.2.2.2.1 := by unfold aCd; rw [hh]
  have hcn : va_CN (aRm M) s args M.1.cls idx M'.1 host M'.2.1 M'.2.2.1 M'.2.2.2.1 [aCd M'] (aRm M') (aMc M') (aMs M') n := by
    refine ⟨⟨rfl, rfl, hR.1, hR.2, fun w hw a' U hW => ?_, by rw [hcd]; exact List.mem_cons_self⟩, by rw [← hcd]; exact B.2.1.1 _ hb.1 _, B.2.1.1 _ hb.2.1 _, hb.2.2.1, hb.par, B.2.1.1 _ hq _⟩
    rw [List.mem_singleton.mp hw]
    exact (B.2.1.1.warm hW) _ hb.1 _
  have hr := va_runSN (p := p) (e := e) (below := below) (meth := meth) (locs := locs) (cells := kc) (slots := ks) (g := F0 m pc ls (st.map (aV X ad))) (rest := rest.map (aV X ad)) (As := av.map (aV X (fun t => ad (aRi h.length is t)))) (Ts := []) ⟨B.1.1, B.1.2.1, B.1.2.2.2.1, B.1.2.2.2.2.1, fun w hw => nomatch hw⟩ (hC.met hno (fun t => ad (aRi h.length is t)) H.size) ⟨hcn, B.2.1.1 _ hq2 _, trivial⟩
    ⟨aBlind, fun U hU hW => aPre (av := av) hs hn B.2.1 B.2.2 S.2.1 S.2.2.1 U hU hW⟩ rfl (by rw [List.length_map]; exact hnn) S.2.2.2.1 (aStk hst) (lv_room (by rw [aVs_cat]; exact hcat)) hd hf
  exact ⟨_, fun T hT XX => Or.inl (hr T hT XX)⟩
/-- invokestatic of a method with handlers -/
theorem a_callSX {n idx : Nat} (hC : aMt l X M' rs av hc Q) (hb : aCb M' n) (hcd : aCd M' = .codeWith M'.1 M'.2.1 M'.2.2.1 M'.2.2.2.1 M'.2.2.2.2.1) (hq : aQ (.methodLink M.1.cls idx M'.1)) (hq2 : aQ (.static M'.1)) (hnn : av.length = n)
    (hs : aSel h is hc) (hn : va_nd is = true) (hst : st = aPush (av.map (aRv (aRi h.length is))) rest) (hkeep : aKeep is rs h.length L rest h F.1 = true) (hcat : (rest.map fun v => v.category).sum ≤ 8)
    (hR : M'.2.2.2.2.2.1 + 1 ≤ M.2.2.2.2.2.1 ∧ 8 + (M'.2.2.1 + 11) + M'.2.2.2.2.2.2.1 ≤ M.2.2.2.2.2.2.1) (hf : kc + aMc M' ≤ aMc M ∧ ks + aMs M' ≤ aMs M) (hd : decode M.2.1 pc = .ok (.invokestatic idx, 3))
    (kx : ∀ (E : String) (h' : List aCell), Q (.inr E) h' → is.length ≤ h'.length ∧ aT l X M F (kc + aMc M') (ks + aMs M') pc E L rest (aMg h is h'))
    (kk : ∀ (v : Option Value) (h' : List aCell), Q (.inl v) h' → is.length ≤ h'.length ∧ aJ l X M F (kc + aMc M') (ks + aMs M') (pc + 3) L ((v.map (aRv (aRi h.length is))).toList ++ rest) (aMg h is h')) : aJ l X M F kc ks pc L st h := by
  refine a_run hs hn hkeep (fun p e s m args below meth c H locs ls A ad ad0 B S => ?_) kx kk
  have hcw : vx_CSW (aRm M) s args M.1.cls idx M'.1 M'.2.1 M'.2.2.1 M'.2.2.2.1 M'.2.2.2.2.1 [aCd M'] (aRm M') (aMc M') (aMs M') n := by
    refine ⟨⟨rfl, rfl, hR.1, hR.2, fun w hw a' U hW => ?_, by rw [hcd]; exact List.mem_cons_self⟩, by rw [← hcd]; exact B.2.1.1 _ hb.1 _, B.2.1.1 _ hb.2.1 _, hb.2.2.1, hb.par, B.2.1.1 _ hq _, B.2.1.1 _ hq2 _⟩
    rw [List.mem_singleton.mp hw]
    exact (B.2.1.1.warm hW) _ hb.1 _
  exact ⟨_, vx_runSX (As := av.map (aV X (fun t => ad (aRi h.length is t)))) (Ts := []) ⟨B.1.1, B.1.2.1, B.1.2.2.2.1, B.1.2.2.2.2.1, fun w hw => nomatch hw⟩ (hC (fun t => ad (aRi h.length is t)) H.size) hcw
    ⟨aBlind, fun U hU hW => aPre (av := av) hs hn B.2.1 B.2.2 S.2.1 S.2.2.1 U hU hW⟩ rfl (by rw [List.length_map]; exact hnn) S.2.2.2.1 (aStk hst) (lv_room (by rw [aVs_cat]; exact hcat)) hd hf⟩
end ACL
/-- a part of the picture, or the same in another order -/
theorem a_sel {l : Launch} {X : aX} {M : aM} {F : aPh} {kc ks pc : Nat} {L st L' st' : List Value} {h h' : List aCell} (is : List Nat) (hs : aSel h is h') (hn : va_nd is = true) (hL : L = L'.map (aRv (aRi h.length is))) (hst : st = st'.map (aRv (aRi h.length is))) (hr : F.1.all (fun i => aRi h.length is i == i) = true) (k : aJ l X M F kc ks pc L' st' h') : aJ l X M F kc ks pc L st h := by
  intro p e s m args below meth c H locs ls A ad ad0 B S
  have hv : ∀ v : Value, aV X ad (aRv (aRi h.length is) v) = aV X (fun t => ad (aRi h.length is t)) v := fun v => by unfold aV; rw [aRv_comp]
  have := k p e s m args below meth c H locs ls A (fun t => ad (aRi h.length is t)) ad0 B ⟨fun i hi => ?_, S.2.1, ⟨fun k q hk => S.2.2.1.1 _ _ (hs.w hk).2, fun i j x y hi hj hxy => ?_, fun k q hk => S.2.2.1.2.2 _ _ (hs.w hk).2⟩, S.2.2.2.1, S.2.2.2.2.1, fun i v hi hn9 => ?_⟩
  · rw [hst, List.map_map]
    rw [show (aV X ad ∘ aRv (aRi h.length is)) = aV X (fun t => ad (aRi h.length is t)) from funext hv]
    exact this
  · have h1 := List.all_eq_true.mp hr i hi
    rw [beq_iff_eq] at h1
    dsimp only
    rw [h1]; exact S.1 i hi
  · obtain ⟨a1, a2⟩ := hs.w hi
    obtain ⟨b1, b2⟩ := hs.w hj
    have h9 := S.2.2.1.2.1 _ _ x y a2 b2 hxy
    rw [← h9] at b1
    exact va_nd_inj is hn i j _ a1 b1
  · rw [← hv]
    refine S.2.2.2.2.2 i _ (by rw [hL, List.getElem?_map, hi]; rfl) ?_
    cases v <;> first | exact absurd rfl hn9 | (intro z; cases z)
