/-! ===== calls of methods that don't throw (written by wip/whole/wraps.py) ===== -/
def aKV (M M' : aM) (idx n ci : Nat) : Prop := aCb M' n ∧ M'.2.2.2.2.1 = [] ∧ aQ (.methodLink M.1.cls idx M'.1) ∧ aQ (.instanceMethod M'.1) ∧ aQ (.selects M'.1.cls M'.1 M'.1) ∧ (∃ T N, vwCl[ci]? = some (M'.1.cls, T, N)) ∧ (M'.2.2.2.2.2.1 + 1 ≤ M.2.2.2.2.2.1 ∧ 8 + (M'.2.2.1 + 11) + M'.2.2.2.2.2.2.1 ≤ M.2.2.2.2.2.2.1)
def aKS (M M' : aM) (idx n : Nat) : Prop := aCb M' n ∧ M'.2.2.2.2.1 = [] ∧ aQ (.methodLink M.1.cls idx M'.1) ∧ aQ (.static M'.1) ∧ (M'.2.2.2.2.2.1 + 1 ≤ M.2.2.2.2.2.1 ∧ 8 + (M'.2.2.1 + 11) + M'.2.2.2.2.2.2.1 ≤ M.2.2.2.2.2.2.1)
def aKSN (M M' : aM) (idx n : Nat) : Prop := aCb M' n ∧ M'.2.2.2.2.1 = [] ∧ (∃ host, aQ (.methodLinkNest M.1.cls idx M'.1 host)) ∧ aQ (.static M'.1) ∧ (M'.2.2.2.2.2.1 + 1 ≤ M.2.2.2.2.2.1 ∧ 8 + (M'.2.2.1 + 11) + M'.2.2.2.2.2.2.1 ≤ M.2.2.2.2.2.2.1)
def aKI (M M' : aM) (idx n : Nat) : Prop := aCb M' n ∧ M'.2.2.2.2.1 = [] ∧ M'.2.2.2.1 = none ∧ (aQ (.methodLink M.1.cls idx M'.1) ∨ ∃ host, aQ (.methodLinkNest M.1.cls idx M'.1 host)) ∧ aQ (.instanceMethod M'.1) ∧ M'.1.name = "<init>" ∧ (M'.2.2.2.2.2.1 + 1 ≤ M.2.2.2.2.2.1 ∧ 8 + (M'.2.2.1 + 11) + M'.2.2.2.2.2.2.1 ≤ M.2.2.2.2.2.2.1)
section ACW
variable {l : Launch} {X : aX} {M M' : aM} {F : aPh} {kc ks pc : Nat} {L st rest As av : List Value} {h hc h1 : List aCell} {rs : List Nat} {Q : aQt} {n idx ci b : Nat} {fs : List Value}
theorem a_ViR {x : Int32} (is : List Nat) (hk : aKV M M' idx n ci) (hC : aRd l X M' rs (.ref b :: As) hc (.int x)) (hd : decode M.2.1 pc = .ok (.invokevirtual idx, 3)) (hnn : As.length = n) (hrc : hc[b]? = some (aOb ci fs)) (hs : aSel h is hc) (hn : va_nd is = true) (hst : st = aPush ((.ref b :: As).map (aRv (aRi h.length is))) rest) (hkeep : aKeep is rs h.length L rest h F.1 = true) (hcat : (rest.map fun v => v.category).sum ≤ 8) (hf : kc ≤ aMc M ∧ ks ≤ aMs M) (h0 : aMc M' = 0 ∧ aMs M' = 0) (kk : aJ l X M F kc ks (pc + 3) L (.int x :: rest) h) : aJ l X M F kc ks pc L st h := by
  obtain ⟨k1, k2, k3, k4, k5, ⟨T, N, k6⟩, k7⟩ := hk
  refine a_callV (C := RX0) hC k1 k2 k3 k4 k5 rfl hnn hrc k6 hs hn hst hkeep hcat k7 (by rw [h0.1, h0.2]; exact hf) hd (fun E h' z => nomatch z.1) (fun v h' z => ?_)
  obtain ⟨z1, rfl⟩ := z
  cases z1
  exact ⟨by rw [hs.len]; exact Nat.le_refl _, by rw [h0.1, h0.2, aMg_id hs hn]; exact kk⟩
theorem a_ViW {x : Int32} (is : List Nat) (h2 : List aCell) (hk : aKV M M' idx n ci) (hC : aWr l X M' rs (.ref b :: As) hc (some (.int x)) h1) (hd : decode M.2.1 pc = .ok (.invokevirtual idx, 3)) (hnn : As.length = n) (hrc : hc[b]? = some (aOb ci fs)) (hs : aSel h is hc) (hn : va_nd is = true) (hst : st = aPush ((.ref b :: As).map (aRv (aRi h.length is))) rest) (hkeep : aKeep is rs h.length L rest h F.1 = true) (hcat : (rest.map fun v => v.category).sum ≤ 8) (hf : kc ≤ aMc M ∧ ks ≤ aMs M) (h0 : aMc M' = 0 ∧ aMs M' = 0) (hle : is.length ≤ h1.length) (hm : aMg h is h1 = h2) (kk : aJ l X M F kc ks (pc + 3) L (.int x :: rest) h2) : aJ l X M F kc ks pc L st h := by
  obtain ⟨k1, k2, k3, k4, k5, ⟨T, N, k6⟩, k7⟩ := hk
  refine a_callV (C := RX0) hC k1 k2 k3 k4 k5 rfl hnn hrc k6 hs hn hst hkeep hcat k7 (by rw [h0.1, h0.2]; exact hf) hd (fun E h' z => nomatch z.1) (fun v h' z => ?_)
  obtain ⟨z1, rfl⟩ := z
  cases z1
  exact ⟨hle, by rw [h0.1, h0.2, hm]; exact kk⟩
theorem a_VlR {x : Int64} (is : List Nat) (hk : aKV M M' idx n ci) (hC : aRd l X M' rs (.ref b :: As) hc (.long x)) (hd : decode M.2.1 pc = .ok (.invokevirtual idx, 3)) (hnn : As.length = n) (hrc : hc[b]? = some (aOb ci fs)) (hs : aSel h is hc) (hn : va_nd is = true) (hst : st = aPush ((.ref b :: As).map (aRv (aRi h.length is))) rest) (hkeep : aKeep is rs h.length L rest h F.1 = true) (hcat : (rest.map fun v => v.category).sum ≤ 8) (hf : kc ≤ aMc M ∧ ks ≤ aMs M) (h0 : aMc M' = 0 ∧ aMs M' = 0) (kk : aJ l X M F kc ks (pc + 3) L (.long x :: rest) h) : aJ l X M F kc ks pc L st h := by
  obtain ⟨k1, k2, k3, k4, k5, ⟨T, N, k6⟩, k7⟩ := hk
  refine a_callV (C := RX0) hC k1 k2 k3 k4 k5 rfl hnn hrc k6 hs hn hst hkeep hcat k7 (by rw [h0.1, h0.2]; exact hf) hd (fun E h' z => nomatch z.1) (fun v h' z => ?_)
  obtain ⟨z1, rfl⟩ := z
  cases z1
  exact ⟨by rw [hs.len]; exact Nat.le_refl _, by rw [h0.1, h0.2, aMg_id hs hn]; exact kk⟩
theorem a_VlW {x : Int64} (is : List Nat) (h2 : List aCell) (hk : aKV M M' idx n ci) (hC : aWr l X M' rs (.ref b :: As) hc (some (.long x)) h1) (hd : decode M.2.1 pc = .ok (.invokevirtual idx, 3)) (hnn : As.length = n) (hrc : hc[b]? = some (aOb ci fs)) (hs : aSel h is hc) (hn : va_nd is = true) (hst : st = aPush ((.ref b :: As).map (aRv (aRi h.length is))) rest) (hkeep : aKeep is rs h.length L rest h F.1 = true) (hcat : (rest.map fun v => v.category).sum ≤ 8) (hf : kc ≤ aMc M ∧ ks ≤ aMs M) (h0 : aMc M' = 0 ∧ aMs M' = 0) (hle : is.length ≤ h1.length) (hm : aMg h is h1 = h2) (kk : aJ l X M F kc ks (pc + 3) L (.long x :: rest) h2) : aJ l X M F kc ks pc L st h := by
  obtain ⟨k1, k2, k3, k4, k5, ⟨T, N, k6⟩, k7⟩ := hk
  refine a_callV (C := RX0) hC k1 k2 k3 k4 k5 rfl hnn hrc k6 hs hn hst hkeep hcat k7 (by rw [h0.1, h0.2]; exact hf) hd (fun E h' z => nomatch z.1) (fun v h' z => ?_)
  obtain ⟨z1, rfl⟩ := z
  cases z1
  exact ⟨hle, by rw [h0.1, h0.2, hm]; exact kk⟩
theorem a_VdR {x : UInt64} (is : List Nat) (hk : aKV M M' idx n ci) (hC : aRd l X M' rs (.ref b :: As) hc (.double x)) (hd : decode M.2.1 pc = .ok (.invokevirtual idx, 3)) (hnn : As.length = n) (hrc : hc[b]? = some (aOb ci fs)) (hs : aSel h is hc) (hn : va_nd is = true) (hst : st = aPush ((.ref b :: As).map (aRv (aRi h.length is))) rest) (hkeep : aKeep is rs h.length L rest h F.1 = true) (hcat : (rest.map fun v => v.category).sum ≤ 8) (hf : kc ≤ aMc M ∧ ks ≤ aMs M) (h0 : aMc M' = 0 ∧ aMs M' = 0) (kk : aJ l X M F kc ks (pc + 3) L (.double x :: rest) h) : aJ l X M F kc ks pc L st h := by
  obtain ⟨k1, k2, k3, k4, k5, ⟨T, N, k6⟩, k7⟩ := hk
  refine a_callV (C := RX0) hC k1 k2 k3 k4 k5 rfl hnn hrc k6 hs hn hst hkeep hcat k7 (by rw [h0.1, h0.2]; exact hf) hd (fun E h' z => nomatch z.1) (fun v h' z => ?_)
  obtain ⟨z1, rfl⟩ := z
  cases z1
  exact ⟨by rw [hs.len]; exact Nat.le_refl _, by rw [h0.1, h0.2, aMg_id hs hn]; exact kk⟩
theorem a_VdW {x : UInt64} (is : List Nat) (h2 : List aCell) (hk : aKV M M' idx n ci) (hC : aWr l X M' rs (.ref b :: As) hc (some (.double x)) h1) (hd : decode M.2.1 pc = .ok (.invokevirtual idx, 3)) (hnn : As.length = n) (hrc : hc[b]? = some (aOb ci fs)) (hs : aSel h is hc) (hn : va_nd is = true) (hst : st = aPush ((.ref b :: As).map (aRv (aRi h.length is))) rest) (hkeep : aKeep is rs h.length L rest h F.1 = true) (hcat : (rest.map fun v => v.category).sum ≤ 8) (hf : kc ≤ aMc M ∧ ks ≤ aMs M) (h0 : aMc M' = 0 ∧ aMs M' = 0) (hle : is.length ≤ h1.length) (hm : aMg h is h1 = h2) (kk : aJ l X M F kc ks (pc + 3) L (.double x :: rest) h2) : aJ l X M F kc ks pc L st h := by
  obtain ⟨k1, k2, k3, k4, k5, ⟨T, N, k6⟩, k7⟩ := hk
  refine a_callV (C := RX0) hC k1 k2 k3 k4 k5 rfl hnn hrc k6 hs hn hst hkeep hcat k7 (by rw [h0.1, h0.2]; exact hf) hd (fun E h' z => nomatch z.1) (fun v h' z => ?_)
  obtain ⟨z1, rfl⟩ := z
  cases z1
  exact ⟨hle, by rw [h0.1, h0.2, hm]; exact kk⟩
theorem a_VvW (is : List Nat) (h2 : List aCell) (hk : aKV M M' idx n ci) (hC : aWr l X M' rs (.ref b :: As) hc none h1) (hd : decode M.2.1 pc = .ok (.invokevirtual idx, 3)) (hnn : As.length = n) (hrc : hc[b]? = some (aOb ci fs)) (hs : aSel h is hc) (hn : va_nd is = true) (hst : st = aPush ((.ref b :: As).map (aRv (aRi h.length is))) rest) (hkeep : aKeep is rs h.length L rest h F.1 = true) (hcat : (rest.map fun v => v.category).sum ≤ 8) (hf : kc ≤ aMc M ∧ ks ≤ aMs M) (h0 : aMc M' = 0 ∧ aMs M' = 0) (hle : is.length ≤ h1.length) (hm : aMg h is h1 = h2) (kk : aJ l X M F kc ks (pc + 3) L rest h2) : aJ l X M F kc ks pc L st h := by
  obtain ⟨k1, k2, k3, k4, k5, ⟨T, N, k6⟩, k7⟩ := hk
  refine a_callV (C := RX0) hC k1 k2 k3 k4 k5 rfl hnn hrc k6 hs hn hst hkeep hcat k7 (by rw [h0.1, h0.2]; exact hf) hd (fun E h' z => nomatch z.1) (fun v h' z => ?_)
  obtain ⟨z1, rfl⟩ := z
  cases z1
  exact ⟨hle, by rw [h0.1, h0.2, hm]; exact kk⟩
theorem a_SiR {x : Int32} (is : List Nat) (hk : aKS M M' idx n) (hC : aRd l X M' rs av hc (.int x)) (hd : decode M.2.1 pc = .ok (.invokestatic idx, 3)) (hnn : av.length = n) (hs : aSel h is hc) (hn : va_nd is = true) (hst : st = aPush (av.map (aRv (aRi h.length is))) rest) (hkeep : aKeep is rs h.length L rest h F.1 = true) (hcat : (rest.map fun v => v.category).sum ≤ 8) (hf : kc ≤ aMc M ∧ ks ≤ aMs M) (h0 : aMc M' = 0 ∧ aMs M' = 0) (kk : aJ l X M F kc ks (pc + 3) L (.int x :: rest) h) : aJ l X M F kc ks pc L st h := by
  obtain ⟨k1, k2, k3, k4, k5⟩ := hk
  refine a_callS hC k1 k2 k3 k4 hnn hs hn hst hkeep hcat k5 (by rw [h0.1, h0.2]; exact hf) hd (fun E h' z => nomatch z.1) (fun v h' z => ?_)
  obtain ⟨z1, rfl⟩ := z
  cases z1
  exact ⟨by rw [hs.len]; exact Nat.le_refl _, by rw [h0.1, h0.2, aMg_id hs hn]; exact kk⟩
theorem a_SiW {x : Int32} (is : List Nat) (h2 : List aCell) (hk : aKS M M' idx n) (hC : aWr l X M' rs av hc (some (.int x)) h1) (hd : decode M.2.1 pc = .ok (.invokestatic idx, 3)) (hnn : av.length = n) (hs : aSel h is hc) (hn : va_nd is = true) (hst : st = aPush (av.map (aRv (aRi h.length is))) rest) (hkeep : aKeep is rs h.length L rest h F.1 = true) (hcat : (rest.map fun v => v.category).sum ≤ 8) (hf : kc ≤ aMc M ∧ ks ≤ aMs M) (h0 : aMc M' = 0 ∧ aMs M' = 0) (hle : is.length ≤ h1.length) (hm : aMg h is h1 = h2) (kk : aJ l X M F kc ks (pc + 3) L (.int x :: rest) h2) : aJ l X M F kc ks pc L st h := by
  obtain ⟨k1, k2, k3, k4, k5⟩ := hk
  refine a_callS hC k1 k2 k3 k4 hnn hs hn hst hkeep hcat k5 (by rw [h0.1, h0.2]; exact hf) hd (fun E h' z => nomatch z.1) (fun v h' z => ?_)
  obtain ⟨z1, rfl⟩ := z
  cases z1
  exact ⟨hle, by rw [h0.1, h0.2, hm]; exact kk⟩
theorem a_SlR {x : Int64} (is : List Nat) (hk : aKS M M' idx n) (hC : aRd l X M' rs av hc (.long x)) (hd : decode M.2.1 pc = .ok (.invokestatic idx, 3)) (hnn : av.length = n) (hs : aSel h is hc) (hn : va_nd is = true) (hst : st = aPush (av.map (aRv (aRi h.length is))) rest) (hkeep : aKeep is rs h.length L rest h F.1 = true) (hcat : (rest.map fun v => v.category).sum ≤ 8) (hf : kc ≤ aMc M ∧ ks ≤ aMs M) (h0 : aMc M' = 0 ∧ aMs M' = 0) (kk : aJ l X M F kc ks (pc + 3) L (.long x :: rest) h) : aJ l X M F kc ks pc L st h := by
  obtain ⟨k1, k2, k3, k4, k5⟩ := hk
  refine a_callS hC k1 k2 k3 k4 hnn hs hn hst hkeep hcat k5 (by rw [h0.1, h0.2]; exact hf) hd (fun E h' z => nomatch z.1) (fun v h' z => ?_)
  obtain ⟨z1, rfl⟩ := z
  cases z1
  exact ⟨by rw [hs.len]; exact Nat.le_refl _, by rw [h0.1, h0.2, aMg_id hs hn]; exact kk⟩
theorem a_SlW {x : Int64} (is : List Nat) (h2 : List aCell) (hk : aKS M M' idx n) (hC : aWr l X M' rs av hc (some (.long x)) h1) (hd : decode M.2.1 pc = .ok (.invokestatic idx, 3)) (hnn : av.length = n) (hs : aSel h is hc) (hn : va_nd is = true) (hst : st = aPush (av.map (aRv (aRi h.length is))) rest) (hkeep : aKeep is rs h.length L rest h F.1 = true) (hcat : (rest.map fun v => v.category).sum ≤ 8) (hf : kc ≤ aMc M ∧ ks ≤ aMs M) (h0 : aMc M' = 0 ∧ aMs M' = 0) (hle : is.length ≤ h1.length) (hm : aMg h is h1 = h2) (kk : aJ l X M F kc ks (pc + 3) L (.long x :: rest) h2) : aJ l X M F kc ks pc L st h := by
  obtain ⟨k1, k2, k3, k4, k5⟩ := hk
  refine a_callS hC k1 k2 k3 k4 hnn hs hn hst hkeep hcat k5 (by rw [h0.1, h0.2]; exact hf) hd (fun E h' z => nomatch z.1) (fun v h' z => ?_)
  obtain ⟨z1, rfl⟩ := z
  cases z1
  exact ⟨hle, by rw [h0.1, h0.2, hm]; exact kk⟩
theorem a_SdR {x : UInt64} (is : List Nat) (hk : aKS M M' idx n) (hC : aRd l X M' rs av hc (.double x)) (hd : decode M.2.1 pc = .ok (.invokestatic idx, 3)) (hnn : av.length = n) (hs : aSel h is hc) (hn : va_nd is = true) (hst : st = aPush (av.map (aRv (aRi h.length is))) rest) (hkeep : aKeep is rs h.length L rest h F.1 = true) (hcat : (rest.map fun v => v.category).sum ≤ 8) (hf : kc ≤ aMc M ∧ ks ≤ aMs M) (h0 : aMc M' = 0 ∧ aMs M' = 0) (kk : aJ l X M F kc ks (pc + 3) L (.double x :: rest) h) : aJ l X M F kc ks pc L st h := by
  obtain ⟨k1, k2, k3, k4, k5⟩ := hk
  refine a_callS hC k1 k2 k3 k4 hnn hs hn hst hkeep hcat k5 (by rw [h0.1, h0.2]; exact hf) hd (fun E h' z => nomatch z.1) (fun v h' z => ?_)
  obtain ⟨z1, rfl⟩ := z
  cases z1
  exact ⟨by rw [hs.len]; exact Nat.le_refl _, by rw [h0.1, h0.2, aMg_id hs hn]; exact kk⟩
theorem a_SdW {x : UInt64} (is : List Nat) (h2 : List aCell) (hk : aKS M M' idx n) (hC : aWr l X M' rs av hc (some (.double x)) h1) (hd : decode M.2.1 pc = .ok (.invokestatic idx, 3)) (hnn : av.length = n) (hs : aSel h is hc) (hn : va_nd is = true) (hst : st = aPush (av.map (aRv (aRi h.length is))) rest) (hkeep : aKeep is rs h.length L rest h F.1 = true) (hcat : (rest.map fun v => v.category).sum ≤ 8) (hf : kc ≤ aMc M ∧ ks ≤ aMs M) (h0 : aMc M' = 0 ∧ aMs M' = 0) (hle : is.length ≤ h1.length) (hm : aMg h is h1 = h2) (kk : aJ l X M F kc ks (pc + 3) L (.double x :: rest) h2) : aJ l X M F kc ks pc L st h := by
  obtain ⟨k1, k2, k3, k4, k5⟩ := hk
  refine a_callS hC k1 k2 k3 k4 hnn hs hn hst hkeep hcat k5 (by rw [h0.1, h0.2]; exact hf) hd (fun E h' z => nomatch z.1) (fun v h' z => ?_)
  obtain ⟨z1, rfl⟩ := z
  cases z1
  exact ⟨hle, by rw [h0.1, h0.2, hm]; exact kk⟩
theorem a_SvW (is : List Nat) (h2 : List aCell) (hk : aKS M M' idx n) (hC : aWr l X M' rs av hc none h1) (hd : decode M.2.1 pc = .ok (.invokestatic idx, 3)) (hnn : av.length = n) (hs : aSel h is hc) (hn : va_nd is = true) (hst : st = aPush (av.map (aRv (aRi h.length is))) rest) (hkeep : aKeep is rs h.length L rest h F.1 = true) (hcat : (rest.map fun v => v.category).sum ≤ 8) (hf : kc ≤ aMc M ∧ ks ≤ aMs M) (h0 : aMc M' = 0 ∧ aMs M' = 0) (hle : is.length ≤ h1.length) (hm : aMg h is h1 = h2) (kk : aJ l X M F kc ks (pc + 3) L rest h2) : aJ l X M F kc ks pc L st h := by
  obtain ⟨k1, k2, k3, k4, k5⟩ := hk
  refine a_callS hC k1 k2 k3 k4 hnn hs hn hst hkeep hcat k5 (by rw [h0.1, h0.2]; exact hf) hd (fun E h' z => nomatch z.1) (fun v h' z => ?_)
  obtain ⟨z1, rfl⟩ := z
  cases z1
  exact ⟨hle, by rw [h0.1, h0.2, hm]; exact kk⟩
theorem a_SNiR {x : Int32} (is : List Nat) (hk : aKSN M M' idx n) (hC : aRd l X M' rs av hc (.int x)) (hd : decode M.2.1 pc = .ok (.invokestatic idx, 3)) (hnn : av.length = n) (hs : aSel h is hc) (hn : va_nd is = true) (hst : st = aPush (av.map (aRv (aRi h.length is))) rest) (hkeep : aKeep is rs h.length L rest h F.1 = true) (hcat : (rest.map fun v => v.category).sum ≤ 8) (hf : kc ≤ aMc M ∧ ks ≤ aMs M) (h0 : aMc M' = 0 ∧ aMs M' = 0) (kk : aJ l X M F kc ks (pc + 3) L (.int x :: rest) h) : aJ l X M F kc ks pc L st h := by
  obtain ⟨k1, k2, ⟨host, k3⟩, k4, k5⟩ := hk
  refine a_callSN hC (fun E h' z => nomatch z.1) k1 k2 k3 k4 hnn hs hn hst hkeep hcat k5 (by rw [h0.1, h0.2]; exact hf) hd (fun v h' z => ?_)
  obtain ⟨z1, rfl⟩ := z
  cases z1
  exact ⟨by rw [hs.len]; exact Nat.le_refl _, by rw [h0.1, h0.2, aMg_id hs hn]; exact kk⟩
theorem a_SNiW {x : Int32} (is : List Nat) (h2 : List aCell) (hk : aKSN M M' idx n) (hC : aWr l X M' rs av hc (some (.int x)) h1) (hd : decode M.2.1 pc = .ok (.invokestatic idx, 3)) (hnn : av.length = n) (hs : aSel h is hc) (hn : va_nd is = true) (hst : st = aPush (av.map (aRv (aRi h.length is))) rest) (hkeep : aKeep is rs h.length L rest h F.1 = true) (hcat : (rest.map fun v => v.category).sum ≤ 8) (hf : kc ≤ aMc M ∧ ks ≤ aMs M) (h0 : aMc M' = 0 ∧ aMs M' = 0) (hle : is.length ≤ h1.length) (hm : aMg h is h1 = h2) (kk : aJ l X M F kc ks (pc + 3) L (.int x :: rest) h2) : aJ l X M F kc ks pc L st h := by
  obtain ⟨k1, k2, ⟨host, k3⟩, k4, k5⟩ := hk
  refine a_callSN hC (fun E h' z => nomatch z.1) k1 k2 k3 k4 hnn hs hn hst hkeep hcat k5 (by rw [h0.1, h0.2]; exact hf) hd (fun v h' z => ?_)
  obtain ⟨z1, rfl⟩ := z
  cases z1
  exact ⟨hle, by rw [h0.1, h0.2, hm]; exact kk⟩
theorem a_SNlR {x : Int64} (is : List Nat) (hk : aKSN M M' idx n) (hC : aRd l X M' rs av hc (.long x)) (hd : decode M.2.1 pc = .ok (.invokestatic idx, 3)) (hnn : av.length = n) (hs : aSel h is hc) (hn : va_nd is = true) (hst : st = aPush (av.map (aRv (aRi h.length is))) rest) (hkeep : aKeep is rs h.length L rest h F.1 = true) (hcat : (rest.map fun v => v.category).sum ≤ 8) (hf : kc ≤ aMc M ∧ ks ≤ aMs M) (h0 : aMc M' = 0 ∧ aMs M' = 0) (kk : aJ l X M F kc ks (pc + 3) L (.long x :: rest) h) : aJ l X M F kc ks pc L st h := by
  obtain ⟨k1, k2, ⟨host, k3⟩, k4, k5⟩ := hk
  refine a_callSN hC (fun E h' z => nomatch z.1) k1 k2 k3 k4 hnn hs hn hst hkeep hcat k5 (by rw [h0.1, h0.2]; exact hf) hd (fun v h' z => ?_)
  obtain ⟨z1, rfl⟩ := z
  cases z1
  exact ⟨by rw [hs.len]; exact Nat.le_refl _, by rw [h0.1, h0.2, aMg_id hs hn]; exact kk⟩
theorem a_SNlW {x : Int64} (is : List Nat) (h2 : List aCell) (hk : aKSN M M' idx n) (hC : aWr l X M' rs av hc (some (.long x)) h1) (hd : decode M.2.1 pc = .ok (.invokestatic idx, 3)) (hnn : av.length = n) (hs : aSel h is hc) (hn : va_nd is = true) (hst : st = aPush (av.map (aRv (aRi h.length is))) rest) (hkeep : aKeep is rs h.length L rest h F.1 = true) (hcat : (rest.map fun v => v.category).sum ≤ 8) (hf : kc ≤ aMc M ∧ ks ≤ aMs M) (h0 : aMc M' = 0 ∧ aMs M' = 0) (hle : is.length ≤ h1.length) (hm : aMg h is h1 = h2) (kk : aJ l X M F kc ks (pc + 3) L (.long x :: rest) h2) : aJ l X M F kc ks pc L st h := by
  obtain ⟨k1, k2, ⟨host, k3⟩, k4, k5⟩ := hk
  refine a_callSN hC (fun E h' z => nomatch z.1) k1 k2 k3 k4 hnn hs hn hst hkeep hcat k5 (by rw [h0.1, h0.2]; exact hf) hd (fun v h' z => ?_)
  obtain ⟨z1, rfl⟩ := z
  cases z1
  exact ⟨hle, by rw [h0.1, h0.2, hm]; exact kk⟩
theorem a_SNdR {x : UInt64} (is : List Nat) (hk : aKSN M M' idx n) (hC : aRd l X M' rs av hc (.double x)) (hd : decode M.2.1 pc = .ok (.invokestatic idx, 3)) (hnn : av.length = n) (hs : aSel h is hc) (hn : va_nd is = true) (hst : st = aPush (av.map (aRv (aRi h.length is))) rest) (hkeep : aKeep is rs h.length L rest h F.1 = true) (hcat : (rest.map fun v => v.category).sum ≤ 8) (hf : kc ≤ aMc M ∧ ks ≤ aMs M) (h0 : aMc M' = 0 ∧ aMs M' = 0) (kk : aJ l X M F kc ks (pc + 3) L (.double x :: rest) h) : aJ l X M F kc ks pc L st h := by
  obtain ⟨k1, k2, ⟨host, k3⟩, k4, k5⟩ := hk
  refine a_callSN hC (fun E h' z => nomatch z.1) k1 k2 k3 k4 hnn hs hn hst hkeep hcat k5 (by rw [h0.1, h0.2]; exact hf) hd (fun v h' z => ?_)
  obtain ⟨z1, rfl⟩ := z
  cases z1
  exact ⟨by rw [hs.len]; exact Nat.le_refl _, by rw [h0.1, h0.2, aMg_id hs hn]; exact kk⟩
theorem a_SNdW {x : UInt64} (is : List Nat) (h2 : List aCell) (hk : aKSN M M' idx n) (hC : aWr l X M' rs av hc (some (.double x)) h1) (hd : decode M.2.1 pc = .ok (.invokestatic idx, 3)) (hnn : av.length = n) (hs : aSel h is hc) (hn : va_nd is = true) (hst : st = aPush (av.map (aRv (aRi h.length is))) rest) (hkeep : aKeep is rs h.length L rest h F.1 = true) (hcat : (rest.map fun v => v.category).sum ≤ 8) (hf : kc ≤ aMc M ∧ ks ≤ aMs M) (h0 : aMc M' = 0 ∧ aMs M' = 0) (hle : is.length ≤ h1.length) (hm : aMg h is h1 = h2) (kk : aJ l X M F kc ks (pc + 3) L (.double x :: rest) h2) : aJ l X M F kc ks pc L st h := by
  obtain ⟨k1, k2, ⟨host, k3⟩, k4, k5⟩ := hk
  refine a_callSN hC (fun E h' z => nomatch z.1) k1 k2 k3 k4 hnn hs hn hst hkeep hcat k5 (by rw [h0.1, h0.2]; exact hf) hd (fun v h' z => ?_)
  obtain ⟨z1, rfl⟩ := z
  cases z1
  exact ⟨hle, by rw [h0.1, h0.2, hm]; exact kk⟩
theorem a_SNvW (is : List Nat) (h2 : List aCell) (hk : aKSN M M' idx n) (hC : aWr l X M' rs av hc none h1) (hd : decode M.2.1 pc = .ok (.invokestatic idx, 3)) (hnn : av.length = n) (hs : aSel h is hc) (hn : va_nd is = true) (hst : st = aPush (av.map (aRv (aRi h.length is))) rest) (hkeep : aKeep is rs h.length L rest h F.1 = true) (hcat : (rest.map fun v => v.category).sum ≤ 8) (hf : kc ≤ aMc M ∧ ks ≤ aMs M) (h0 : aMc M' = 0 ∧ aMs M' = 0) (hle : is.length ≤ h1.length) (hm : aMg h is h1 = h2) (kk : aJ l X M F kc ks (pc + 3) L rest h2) : aJ l X M F kc ks pc L st h := by
  obtain ⟨k1, k2, ⟨host, k3⟩, k4, k5⟩ := hk
  refine a_callSN hC (fun E h' z => nomatch z.1) k1 k2 k3 k4 hnn hs hn hst hkeep hcat k5 (by rw [h0.1, h0.2]; exact hf) hd (fun v h' z => ?_)
  obtain ⟨z1, rfl⟩ := z
  cases z1
  exact ⟨hle, by rw [h0.1, h0.2, hm]; exact kk⟩
theorem a_IvW (is : List Nat) (h2 : List aCell) (hk : aKI M M' idx n) (hC : aWr l X M' rs (.ref b :: As) hc none h1) (hd : decode M.2.1 pc = .ok (.invokespecial idx, 3)) (hnn : As.length = n) (hs : aSel h is hc) (hn : va_nd is = true) (hst : st = aPush ((.ref b :: As).map (aRv (aRi h.length is))) rest) (hkeep : aKeep is rs h.length L rest h F.1 = true) (hcat : (rest.map fun v => v.category).sum ≤ 8) (hf : kc + aMc M' ≤ aMc M ∧ ks + aMs M' ≤ aMs M) (hle : is.length ≤ h1.length) (hm : aMg h is h1 = h2) (kk : aJ l X M F (kc + aMc M') (ks + aMs M') (pc + 3) L rest h2) : aJ l X M F kc ks pc L st h := by
  obtain ⟨k1, k2, k3, k4, k5, k6, k7⟩ := hk
  have hj : ∀ (v : Option Value) (h' : List aCell), (Sum.inl v = (Sum.inl none : Option Value ⊕ String) ∧ h' = h1) → is.length ≤ h'.length ∧ aJ l X M F (kc + aMc M') (ks + aMs M') (pc + 3) L ((v.map (aRv (aRi h.length is))).toList ++ rest) (aMg h is h') := by
    intro v h' z
    obtain ⟨z1, rfl⟩ := z
    cases z1
    exact ⟨hle, by rw [hm]; exact kk⟩
  rcases k4 with k4 | ⟨host, k4⟩
  · exact a_callI hC (fun E h' z => nomatch z.1) k1 k2 k3 k4 k5 k6 rfl hnn hs hn hst hkeep hcat k7 hf hd hj
  · exact a_callIN hC (fun E h' z => nomatch z.1) k1 k2 k3 k4 k5 k6 rfl hnn hs hn hst hkeep hcat k7 hf hd hj
end ACW
