/-! written by wip/whole/pp.py out of wip/whole/src/34.lawk.lean -/

/-! ===== the law's own methods ===== -/
def aKX (M M' : aM) (idx n : Nat) : Prop := aCb M' n ∧ aCd M' = .codeWith M'.1 M'.2.1 M'.2.2.1 M'.2.2.2.1 M'.2.2.2.2.1 ∧ aQ (.methodLink M.1.cls idx M'.1) ∧ aQ (.static M'.1) ∧ (M'.2.2.2.2.2.1 + 1 ≤ M.2.2.2.2.2.1 ∧ 8 + (M'.2.2.1 + 11) + M'.2.2.2.2.2.2.1 ≤ M.2.2.2.2.2.2.1)
section LWW
variable {l : Launch} {X : aX} {M M' : aM} {F : aPh} {kc ks pc : Nat} {L st rest As av : List Value} {h hc h1 : List aCell} {rs : List Nat} {n idx ci b : Nat} {fs : List Value} {E : String}
/-- a call that throws, out of a method with handlers -/
theorem a_Vc (is : List Nat) (hk : aKV M M' idx n ci) (hC : aMt l X M' rs (.ref b :: As) hc (fun o h' => o = .inr E ∧ h' = hc)) (hd : decode M.2.1 pc = .ok (.invokevirtual idx, 3)) (hnn : As.length = n) (hrc : hc[b]? = some (aOb ci fs)) (hs : aSel h is hc) (hn : va_nd is = true) (hst : st = aPush ((.ref b :: As).map (aRv (aRi h.length is))) rest) (hkeep : aKeep is rs h.length L rest h F.1 = true) (hcat : (rest.map fun v => v.category).sum ≤ 8) (hf : kc + aMc M' ≤ aMc M ∧ ks + aMs M' ≤ aMs M) (kx : aT l X M F (kc + aMc M') (ks + aMs M') pc E L rest h) : aJ l X M F kc ks pc L st h := by
  obtain ⟨k1, k2, k3, k4, k5, ⟨T, N, k6⟩, k7⟩ := hk
  refine a_callV (C := RX0) hC k1 k2 k3 k4 k5 rfl hnn hrc k6 hs hn hst hkeep hcat k7 hf hd (fun E' h' z => ?_) (fun v h' z => nomatch z.1)
  obtain ⟨z1, rfl⟩ := z
  cases z1
  rw [aMg_id hs hn]
  exact ⟨by rw [hs.len]; exact Nat.le_refl _, kx⟩
/-- a call that answers x, with its cells counted -/
theorem a_Vw {x : Value} (is : List Nat) (h2 : List aCell) (hk : aKV M M' idx n ci) (hC : aWr l X M' rs (.ref b :: As) hc (some x) h1) (hd : decode M.2.1 pc = .ok (.invokevirtual idx, 3)) (hnn : As.length = n) (hrc : hc[b]? = some (aOb ci fs)) (hs : aSel h is hc) (hn : va_nd is = true) (hst : st = aPush ((.ref b :: As).map (aRv (aRi h.length is))) rest) (hkeep : aKeep is rs h.length L rest h F.1 = true) (hcat : (rest.map fun v => v.category).sum ≤ 8) (hf : kc + aMc M' ≤ aMc M ∧ ks + aMs M' ≤ aMs M) (hle : is.length ≤ h1.length) (hm : aMg h is h1 = h2) (hx : aRv (aRi h.length is) x = x) (kk : aJ l X M F (kc + aMc M') (ks + aMs M') (pc + 3) L (x :: rest) h2) : aJ l X M F kc ks pc L st h := by
  obtain ⟨k1, k2, k3, k4, k5, ⟨T, N, k6⟩, k7⟩ := hk
  refine a_callV (C := RX0) hC k1 k2 k3 k4 k5 rfl hnn hrc k6 hs hn hst hkeep hcat k7 hf hd (fun E' h' z => nomatch z.1) (fun v h' z => ?_)
  obtain ⟨z1, rfl⟩ := z
  cases z1
  refine ⟨hle, ?_⟩
  rw [hm]
  show aJ l X M F _ _ _ L (aRv (aRi h.length is) x :: rest) h2
  rw [hx]
  exact kk
/-- a call of a static method with handlers -/
theorem a_SX {x : Int32} (is : List Nat) (h2 : List aCell) (hk : aKX M M' idx n) (hC : aWr l X M' rs av hc (some (.int x)) h1) (hd : decode M.2.1 pc = .ok (.invokestatic idx, 3)) (hnn : av.length = n) (hs : aSel h is hc) (hn : va_nd is = true) (hst : st = aPush (av.map (aRv (aRi h.length is))) rest) (hkeep : aKeep is rs h.length L rest h F.1 = true) (hcat : (rest.map fun v => v.category).sum ≤ 8) (hf : kc + aMc M' ≤ aMc M ∧ ks + aMs M' ≤ aMs M) (hle : is.length ≤ h1.length) (hm : aMg h is h1 = h2) (kk : aJ l X M F (kc + aMc M') (ks + aMs M') (pc + 3) L (.int x :: rest) h2) : aJ l X M F kc ks pc L st h := by
  obtain ⟨k1, k2, k3, k4, k5⟩ := hk
  refine a_callSX hC k1 k2 k3 k4 hnn hs hn hst hkeep hcat k5 hf hd (fun E' h' z => nomatch z.1) (fun v h' z => ?_)
  obtain ⟨z1, rfl⟩ := z
  cases z1
  exact ⟨hle, by rw [hm]; exact kk⟩
end LWW
theorem aRv_id (v : Value) : aRv id v = v := by cases v <;> rfl
theorem aRc_id (e : aCell) : aRc id e = e := by
  rcases e with ⟨ci, fs⟩ | a | l
  · simp only [aRc]
    congr 2
    rw [show (aRv id : Value → Value) = id from funext aRv_id, List.map_id]
  · rfl
  · simp only [aRc]
    congr 2
    rw [show (fun r : Option Nat => r.map id) = id from funext (fun r => by cases r <;> rfl), List.map_id]
theorem aRc_fix {p : Nat → Bool} {f : Nat → Nat} (hp : ∀ i, p i = true → f i = i) {e : aCell} (h : aCo p e = true) : aRc f e = e :=
  (aRc_congr (g := id) hp h).trans (aRc_id e)
/-- references moved -/
theorem aVo_mv {p p' : Nat → Bool} {f : Nat → Nat} (hp : ∀ i, p i = true → p' (f i) = true) {v : Value} (h : aVo p v = true) : aVo p' (aRv f v) = true := by
  cases v <;> first | rfl | exact hp _ h
theorem aCo_mv {p p' : Nat → Bool} {f : Nat → Nat} (hp : ∀ i, p i = true → p' (f i) = true) {e : aCell} (h : aCo p e = true) : aCo p' (aRc f e) = true := by
  rcases e with ⟨ci, fs⟩ | a | l
  · refine List.all_eq_true.mpr fun v hv => ?_
    obtain ⟨w, hw, rfl⟩ := List.mem_map.mp hv
    exact aVo_mv hp (List.all_eq_true.mp h w hw)
  · rfl
  · refine List.all_eq_true.mpr fun r hr => ?_
    obtain ⟨w, hw, rfl⟩ := List.mem_map.mp hr
    have := List.all_eq_true.mp h w hw
    cases w with
    | none => rfl
    | some i => exact hp i this
theorem aRs_of {is : List Nat} {p : Nat → Bool} : ∀ (l : List aCell) (i : Nat), (∀ j e, l[j]? = some e → aIx is (i + j) = none → aCo p e = true) → aRs is p i l = true
  | [], _, _ => rfl
  | e :: l, i, h => by
    unfold aRs
    rw [Bool.and_eq_true]
    refine ⟨?_, aRs_of l (i + 1) (fun j e' h1 h2 => h (j + 1) e' h1 (by rw [show i + (j + 1) = i + 1 + j by omega]; exact h2))⟩
    cases hx : aIx is i with
    | some t => rfl
    | none => exact h 0 e rfl hx
theorem be55 {e : aCell} {f : Nat → Nat} (hf : ∀ t, t < 55 → f t = t) (h : aCo (aBe 55) e = true) : aRc f e = e := aRc_fix (p := aBe 55) (fun i hi => hf i (of_decide_eq_true hi)) h
theorem hx_fix {hx : List aCell} {f : Nat → Nat} (hc : hx.all (aCo (aBe 55)) = true) (hf : ∀ t, t < 55 → f t = t) (j : Nat) : (hx[j]?).map (aRc f) = hx[j]? := by
  cases he : hx[j]? with
  | none => rfl
  | some e => exact congrArg some (be55 hf (List.all_eq_true.mp hc e (List.mem_of_getElem? he)))
theorem isB_1 : (∀ j, j < 55 → aIx is55 j = some j) ∧ aIx is55 55 = none ∧ (∀ t, t < 55 → aRi 56 is55 t = t) ∧ (∀ j, j < 55 → is55[j]? = some j) := by decide +kernel
def aHx (hx : List aCell) : Prop := hx.length = 55 ∧ hx.all (aCo (aBe 55)) = true
section AHX
variable {hx hx' : List aCell} {oc : aCell}
theorem aHx_len (b : aHx hx) : (hx ++ [oc]).length = 56 := by rw [List.length_append, b.1]; rfl
theorem aHx_55 (b : aHx hx) : (hx ++ [oc])[55]? = some oc := by rw [List.getElem?_append_right (by rw [b.1]; decide), b.1]; rfl
theorem aHx_set (b : aHx hx) {e : aCell} : (hx ++ [oc]).set 55 e = hx ++ [e] := by rw [List.set_append, if_neg (by rw [b.1]; decide), b.1]; rfl
theorem aHx_lo (b : aHx hx) {j : Nat} (hj : j < 55) : (hx ++ [oc])[j]? = hx[j]? := List.getElem?_append_left (by rw [b.1]; exact hj)
theorem aHx_hi (b : aHx hx) {j : Nat} (hj : 56 ≤ j) : (hx ++ [oc])[j]? = none := List.getElem?_eq_none (by rw [aHx_len b]; exact hj)
theorem aHx_sel (b : aHx hx) : aSel (hx ++ [oc]) is55 hx := by
  unfold aSel
  rw [aHx_len b]
  apply List.ext_getElem?
  intro j
  rw [List.getElem?_map, List.getElem?_map]
  rcases Nat.lt_or_ge j 55 with q | q
  · rw [isB_1.2.2.2 j q]
    show some ((hx ++ [oc])[j]?) = _
    rw [aHx_lo b q]
    obtain ⟨e, he⟩ : ∃ e, hx[j]? = some e := ⟨_, List.getElem?_eq_getElem (by rw [b.1]; exact q)⟩
    rw [he]
    show some (some e) = some (some (aRc (aRi 56 is55) e))
    rw [be55 isB_1.2.2.1 (List.all_eq_true.mp b.2 e (List.mem_of_getElem? he))]
  · rw [List.getElem?_eq_none (show is55.length ≤ j from q), List.getElem?_eq_none (by rw [b.1]; exact q)]
    rfl
theorem aHx_mg (b : aHx hx) (b' : aHx hx') : aMg (hx ++ [oc]) is55 hx' = hx' ++ [oc] := by
  have hle : is55.length ≤ hx'.length := by rw [b'.1]; exact Nat.le_refl _
  apply List.ext_getElem?
  intro j
  rw [aMg_get hle, aHx_len b]
  rcases Nat.lt_or_ge j 55 with q | q
  · rw [if_pos (by omega), isB_1.1 j q, aHx_lo b' q]
    dsimp only
    rw [hx_fix b'.2 isB_1.2.2.1]
  · rcases Nat.lt_or_ge j 56 with q2 | q2
    · obtain rfl : j = 55 := by omega
      rw [if_pos (by omega), isB_1.2.1, aHx_55 b']
      dsimp only
      rw [aHx_55 b]
    · rw [if_neg (by omega), aHx_hi b' q2, List.getElem?_eq_none (by rw [b'.1]; show 55 ≤ 55 + (j - 56); omega)]
      rfl
theorem aHx_rs (b : aHx hx) (hd : ∀ p, aCo p oc = true) : aRs is55 (aSb is55 [0] 56) 0 (hx ++ [oc]) = true := by
  refine aRs_of _ _ (fun j e he hix => ?_)
  rw [Nat.zero_add] at hix
  rcases Nat.lt_or_ge j 55 with q | q
  · rw [isB_1.1 j q] at hix; cases hix
  · rcases Nat.lt_or_ge j 56 with q2 | q2
    · obtain rfl : j = 55 := by omega
      rw [aHx_55 b] at he; cases he
      exact hd _
    · rw [aHx_hi b q2] at he; cases he
theorem aHx_all (b : aHx hx) (hd : ∀ p, aCo p oc = true) : (hx ++ [oc]).all (aCo (aBe 56)) = true := by
  rw [List.all_append, Bool.and_eq_true]
  refine ⟨List.all_eq_true.mpr fun e he => ?_, ?_⟩
  · have h2 := aCo_mv (p := aBe 55) (p' := aBe 56) (f := id) (fun i hi => decide_eq_true (by have := of_decide_eq_true hi; show id i < 56; simp only [id]; omega)) (List.all_eq_true.mp b.2 e he)
    rw [aRc_id] at h2
    exact h2
  · show (aCo (aBe 56) oc && true) = true
    rw [hd]; rfl
end AHX
section LWX
variable {l : Launch} {X : aX} {M M' : aM} {Q : aQt} {kc ks pc n idx : Nat} {L st rest As : List Value} {hx hx' : List aCell} {oc : aCell} {fs : List Value} {E : String}
theorem lx_call {x : Value} (hk : aKV M M' idx n 6) (hC : aMt l X M' [0] (.ref 0 :: As) hx (fun o h' => o = .inl (some x) ∧ h' = hx')) (hd : decode M.2.1 pc = .ok (.invokevirtual idx, 3)) (hnn : As.length = n) (hrc : hx[0]? = some (aOb 6 fs)) (hst : st = aPush ((.ref 0 :: As).map (aRv (aRi 56 is55))) rest) (hL : L.all (aVo (aSb is55 [0] 56)) = true) (hr : rest.all (aVo (aSb is55 [0] 56)) = true) (hcat : (rest.map fun v => v.category).sum ≤ 8) (hf : kc + aMc M' ≤ aMc M ∧ ks + aMs M' ≤ aMs M) (b : aHx hx) (b' : aHx hx') (ho : ∀ p, aCo p oc = true) (hxx : ∀ f, aRv f x = x) (kk : aJ l X M (aEd X M [0, 55] Q) (kc + aMc M') (ks + aMs M') (pc + 3) L (x :: rest) (hx' ++ [oc])) : aJ l X M (aEd X M [0, 55] Q) kc ks pc L st (hx ++ [oc]) := by
  refine a_Vw is55 (hx' ++ [oc]) hk hC hd hnn hrc (aHx_sel b) rfl ?_ ?_ hcat hf ?_ (aHx_mg b b') (hxx _) kk
  · rw [aHx_len b]; exact hst
  · unfold aKeep
    rw [aHx_len b, hL, hr, aHx_rs b ho]
    rfl
  · rw [b'.1]; exact Nat.le_refl _
theorem lx_callx (hk : aKV M M' idx n 6) (hC : aMt l X M' [0] (.ref 0 :: As) hx (fun o h' => o = .inr E ∧ h' = hx)) (hd : decode M.2.1 pc = .ok (.invokevirtual idx, 3)) (hnn : As.length = n) (hrc : hx[0]? = some (aOb 6 fs)) (hst : st = aPush ((.ref 0 :: As).map (aRv (aRi 56 is55))) rest) (hL : L.all (aVo (aSb is55 [0] 56)) = true) (hr : rest.all (aVo (aSb is55 [0] 56)) = true) (hcat : (rest.map fun v => v.category).sum ≤ 8) (hf : kc + aMc M' ≤ aMc M ∧ ks + aMs M' ≤ aMs M) (b : aHx hx) (ho : ∀ p, aCo p oc = true) (kx : aT l X M (aEd X M [0, 55] Q) (kc + aMc M') (ks + aMs M') pc E L rest (hx ++ [oc])) : aJ l X M (aEd X M [0, 55] Q) kc ks pc L st (hx ++ [oc]) := by
  refine a_Vc is55 hk hC hd hnn hrc (aHx_sel b) rfl ?_ ?_ hcat hf kx
  · rw [aHx_len b]; exact hst
  · unfold aKeep
    rw [aHx_len b, hL, hr, aHx_rs b ho]
    rfl
theorem lx_ok (b : aHx hx) (ho : ∀ p, aCo p oc = true) (hL : L.all (aVo (aBe 56)) = true) : (L.all (aVo (aBe (hx ++ [oc]).length)) && ([] : List Value).all (aVo (aBe (hx ++ [oc]).length)) && (hx ++ [oc]).all (aCo (aBe (hx ++ [oc]).length)) && (aEd X M [0, 55] Q).1.all (aBe (hx ++ [oc]).length)) = true := by
  rw [aHx_len b, hL, aHx_all b ho]
  rfl
end LWX
