/-! ===== rows: fields, arrays, new cells, returns ===== -/
/-- entry idx of class own's pool is field k of class ci -/
def aFl (own : String) (idx ci k : Nat) : Prop := ∃ (C : String) (T : u_T) (N : Nat), vwCl[ci]? = some (C, T, N) ∧ (∀ w ∈ u_ws C T N, aQ w) ∧ k < N ∧ aQ (.fieldLink own idx (T k).1 (T k).2.1 (T k).2.2.1)
/-- .. of type ty, which may be written (fin: in the constructor alone) -/
def aFp (own : String) (idx ci k : Nat) (fin : Bool) (ty : FieldType) : Prop := ∃ (C : String) (T : u_T) (N : Nat) (tyf : Nat → FieldType), vwCl[ci]? = some (C, T, N) ∧ (∀ w ∈ u_ws C T N, aQ w) ∧ k < N ∧ aQ (.fieldLink own idx (T k).1 (T k).2.1 (T k).2.2.1) ∧
  (∀ k, k < N → parseFieldDescriptor (T k).2.2.1 = some (tyf k)) ∧ (∀ a, a < N → ∀ b, b < N → a ≠ b → (T a).2.1 ≠ (T b).2.1) ∧ (T k).2.2.2 = fin ∧ tyf k = ty ∧ (T k).1 = own
def aUp (ad : Nat → Nat) (n q : Nat) : Nat → Nat := fun j => if j = n then q else ad j
abbrev aBe (n : Nat) : Nat → Bool := fun i => decide (i < n)
def aOr (r : Option Nat) : Value := match r with
  | some t => .ref t
  | none => .null
theorem aW_congr {X : aX} {p : Nat → Bool} {f g : Nat → Nat} {h : List aCell} (hp : ∀ i, p i = true → f i = g i) (hh : h.all (aCo p) = true) (hl : ∀ i, i < h.length → f i = g i) : aW X f h = aW X g h := by
  apply List.ext_getElem?
  intro j
  rw [aW_get, aW_get]
  cases hj : h[j]? with
  | none => rfl
  | some e =>
    have h1 := (List.getElem?_eq_some_iff.mp hj).1
    show some (f j, aCc X (aRc f e)) = some (g j, aCc X (aRc g e))
    rw [hl j h1, aRc_congr hp (List.all_eq_true.mp hh e (List.mem_of_getElem? hj))]
theorem aW_app {X : aX} {ad : Nat → Nat} {h : List aCell} {e : aCell} : aW X ad (h ++ [e]) = aW X ad h ++ [(ad h.length, aCc X (aRc ad e))] := by
  apply List.ext_getElem?
  intro j
  rw [aW_get]
  by_cases hl : j < h.length
  · rw [List.getElem?_append_left hl, List.getElem?_append_left (by rw [aW, aMx_len]; exact hl), aW_get]
  · rw [List.getElem?_append_right (by omega), List.getElem?_append_right (by rw [aW, aMx_len]; omega)]
    rw [aW, aMx_len]
    by_cases hj : j = h.length
    · subst hj; simp
    · obtain ⟨z, hz⟩ : ∃ z, j - h.length = z + 1 := ⟨j - h.length - 1, by omega⟩
      rw [hz]; rfl
theorem aPt.up {X : aX} {M : aM} {rs : List Nat} {A : Nat → Prop} {H0 : Heap} {ad0 ad : Nat → Nat} {L st : List Value} {h : List aCell} {H : Heap} {locs : List Loc} {ls : Array Slot} {q : Nat}
    (hok : (L.all (aVo (aBe h.length)) && st.all (aVo (aBe h.length)) && h.all (aCo (aBe h.length)) && rs.all (aBe h.length)) = true) (S : aPt X M rs A H0 ad0 L h ad H locs ls) :
    (∀ i ∈ rs, aUp ad h.length q i = ad0 i) ∧ aW X (aUp ad h.length q) h = aW X ad h ∧ aLv X (aUp ad h.length q) ls M.2.2.1 L ∧ st.map (aV X (aUp ad h.length q)) = st.map (aV X ad) := by
  simp only [Bool.and_eq_true] at hok
  obtain ⟨⟨⟨h1, h2⟩, h3⟩, h4⟩ := hok
  have hp : ∀ i, aBe h.length i = true → aUp ad h.length q i = ad i := fun i hi => by
    have : i < h.length := of_decide_eq_true hi
    unfold aUp; rw [if_neg (by omega)]
  refine ⟨fun i hi => ?_, aW_congr hp h3 (fun i hi => hp i (decide_eq_true hi)), ⟨S.2.2.2.1, S.2.2.2.2.1, fun i v hi hv => ?_⟩, aVs_congr hp h2⟩
  · rw [hp i (List.all_eq_true.mp h4 i hi)]; exact S.1 i hi
  · rw [aV_congr hp (List.all_eq_true.mp h1 v (List.mem_of_getElem? hi))]; exact S.2.2.2.2.2 i v hi hv
section AMR
variable {l : Launch} {X : aX} {M : aM} {F : aPh} {kc ks pc : Nat} {L st : List Value} {h : List aCell}
theorem a_get {ci k a idx : Nat} {fs : List Value} {v : Value} (hf : aFl M.1.cls idx ci k) (hd : decode M.2.1 pc = .ok (.getfield idx, 3)) (hc : h[a]? = some (aOb ci fs)) (hv : fs[k]? = some v)
    (kk : aJ l X M F kc ks (pc + 3) L (v :: st) h) : aJ l X M F kc ks pc L (.ref a :: st) h := by
  intro p e s m args below meth c H locs ls A ad ad0 B S
  obtain ⟨C, T, N, hcl, hws, hk, hq⟩ := hf
  refine va_get (D := X.1) (cl := vwCl) (ci := ci) (C := C) (T := T) (N := N) (v := aV X ad v) (fs := (fs.map (aRv ad)).map (aCv X)) (Ts := u_ws C T N) B.1.1 B.1.2.1 (fun w hw => B.2.1.1 w (hws w hw) _) (fun _ hw => hw) B.1.2.2.2.2.1 B.2.1.2.1 S.2.2.1.1 a (aW_at hc) hcl k hk (B.2.1.1 _ hq _) (fun _ z => z) ?_ hd (kk p e s m args below meth c H locs ls A ad ad0 B S)
  rw [List.map_map, List.getElem?_map, hv]; rfl
theorem a_put {ci k a idx : Nat} {fs : List Value} {v : Value} {ty : FieldType} (hf : aFp M.1.cls idx ci k false ty) (hd : decode M.2.1 pc = .ok (.putfield idx, 3)) (hc : h[a]? = some (aOb ci fs)) (hl : k < fs.length) (hn : ∀ ad, narrow ty (aV X ad v) = aV X ad v ∧ fits ty (aV X ad v) = true)
    (kk : aJ l X M F kc ks (pc + 3) L st (h.set a (aOb ci (fs.set k v)))) : aJ l X M F kc ks pc L (v :: .ref a :: st) h := by
  intro p e s m args below meth c H locs ls A ad ad0 B S
  obtain ⟨C, T, N, tyf, hcl, hws, hk, hq, hty, hnm, hfin, hte, -⟩ := hf
  refine va_put (D := X.1) (cl := vwCl) (ci := ci) (C := C) (T := T) (N := N) (v := aV X ad v) (ty := ty) (fs := (fs.map (aRv ad)).map (aCv X)) (Ts := u_ws C T N) B.1.1 B.1.2.1 (fun w hw => B.2.1.1 w (hws w hw) _) (fun _ hw => hw) tyf hty hnm B.1.2.2.2.2.1 B.2.1.2.1 S.2.2.1.1 S.2.2.1.2 S.2.1 a (aW_at hc) hcl k hk (B.2.1.1 _ hq _) (fun _ z => z) hfin (by rw [hty k hk, hte]) (hn ad).1 (hn ad).2 (by simpa using hl) hd (fun H1 locs1 hP hD hS => ?_)
  have he : (aW X ad h).set a (ad a, .inr (ci, ((fs.map (aRv ad)).map (aCv X)).set k (aV X ad v))) = aW X ad (h.set a (aOb ci (fs.set k v))) := by
    rw [aW_set]
    simp only [aRc, aCc, List.map_set]
  rw [he] at hP hD
  exact kk p e s m args below meth c H1 locs1 ls A ad ad0 B ⟨S.1, hS, ⟨hP, hD⟩, S.2.2.2⟩
theorem a_putF {ci k a idx : Nat} {fs : List Value} {v : Value} {ty : FieldType} (hf : aFp M.1.cls idx ci k true ty) (hin : M.1.name = "<init>") (hd : decode M.2.1 pc = .ok (.putfield idx, 3)) (hc : h[a]? = some (aOb ci fs)) (hl : k < fs.length) (hn : ∀ ad, narrow ty (aV X ad v) = aV X ad v ∧ fits ty (aV X ad v) = true)
    (kk : aJ l X M F kc ks (pc + 3) L st (h.set a (aOb ci (fs.set k v)))) : aJ l X M F kc ks pc L (v :: .ref a :: st) h := by
  intro p e s m args below meth c H locs ls A ad ad0 B S
  obtain ⟨C, T, N, tyf, hcl, hws, hk, hq, hty, hnm, hfin, hte, hdecl⟩ := hf
  refine va_putF (D := X.1) (cl := vwCl) (ci := ci) (C := C) (T := T) (N := N) (v := aV X ad v) (ty := ty) (fs := (fs.map (aRv ad)).map (aCv X)) (Ts := u_ws C T N) B.1.1 B.1.2.1 (fun w hw => B.2.1.1 w (hws w hw) _) (fun _ hw => hw) tyf hty hnm B.1.2.2.2.2.1 B.2.1.2.1 S.2.2.1.1 S.2.2.1.2 S.2.1 a (aW_at hc) hcl k hk (B.2.1.1 _ hq _) (fun _ z => z) hfin (B.1.2.2.2.2.2.2.1.trans hin) hdecl (by rw [hty k hk, hte]) (hn ad).1 (hn ad).2 (by simpa using hl) hd (fun H1 locs1 hP hD hS => ?_)
  have he : (aW X ad h).set a (ad a, .inr (ci, ((fs.map (aRv ad)).map (aCv X)).set k (aV X ad v))) = aW X ad (h.set a (aOb ci (fs.set k v))) := by
    rw [aW_set]
    simp only [aRc, aCc, List.map_set]
  rw [he] at hP hD
  exact kk p e s m args below meth c H1 locs1 ls A ad ad0 B ⟨S.1, hS, ⟨hP, hD⟩, S.2.2.2⟩
theorem a_iald {a n : Nat} {f : Nat → Int32} {i : Int32} (hd : decode M.2.1 pc = .ok (.iaload, 1)) (hc : h[a]? = some (aIa n f)) (hin : vp_in i n) (k : aJ l X M F kc ks (pc + 1) L (.int (f i.toNatClampNeg) :: st) h) : aJ l X M F kc ks pc L (.int i :: .ref a :: st) h :=
  fun p e s m args below meth c H locs ls A ad ad0 B S => va_iald B.1.1 B.1.2.1 B.2.1.2.1 S.2.2.1.1 a 0 (aW_at hc) rfl hin hd (k p e s m args below meth c H locs ls A ad ad0 B S)
theorem a_lald {a n : Nat} {f : Nat → Int64} {i : Int32} (hd : decode M.2.1 pc = .ok (.laload, 1)) (hc : h[a]? = some (aLa n f)) (hin : vp_in i n) (k : aJ l X M F kc ks (pc + 1) L (.long (f i.toNatClampNeg) :: st) h) : aJ l X M F kc ks pc L (.int i :: .ref a :: st) h :=
  fun p e s m args below meth c H locs ls A ad ad0 B S => va_lald B.1.1 B.1.2.1 B.2.1.2.1 S.2.2.1.1 a 1 (aW_at hc) rfl hin hd (k p e s m args below meth c H locs ls A ad ad0 B S)
theorem a_dald {a n : Nat} {f : Nat → UInt64} {i : Int32} (hd : decode M.2.1 pc = .ok (.daload, 1)) (hc : h[a]? = some (aDa n f)) (hin : vp_in i n) (k : aJ l X M F kc ks (pc + 1) L (.double (f i.toNatClampNeg) :: st) h) : aJ l X M F kc ks pc L (.int i :: .ref a :: st) h :=
  fun p e s m args below meth c H locs ls A ad ad0 B S => va_dald B.1.1 B.1.2.1 B.2.1.2.1 S.2.2.1.1 a 2 (aW_at hc) rfl hin hd (k p e s m args below meth c H locs ls A ad ad0 B S)
theorem a_zald {a n : Nat} {f : Nat → Int32} {i : Int32} (hd : decode M.2.1 pc = .ok (.baload, 1)) (hc : h[a]? = some (aBa n f)) (hin : vp_in i n) (k : aJ l X M F kc ks (pc + 1) L (.int (f i.toNatClampNeg) :: st) h) : aJ l X M F kc ks pc L (.int i :: .ref a :: st) h :=
  fun p e s m args below meth c H locs ls A ad ad0 B S => va_zald B.1.1 B.1.2.1 B.2.1.2.1 S.2.2.1.1 a 3 (aW_at hc) rfl hin hd (k p e s m args below meth c H locs ls A ad ad0 B S)
theorem a_iast {a n : Nat} {f : Nat → Int32} {i x : Int32} (hd : decode M.2.1 pc = .ok (.iastore, 1)) (hc : h[a]? = some (aIa n f)) (hin : vp_in i n) (k : aJ l X M F kc ks (pc + 1) L st (h.set a (aIa n (upd f i.toNatClampNeg x)))) : aJ l X M F kc ks pc L (.int x :: .int i :: .ref a :: st) h := by
  intro p e s m args below meth c H locs ls A ad ad0 B S
  refine va_iast B.1.1 B.1.2.1 B.2.1.2.1 S.2.2.1.1 S.2.2.1.2 S.2.1 a 0 (aW_at hc) rfl hin hd (fun H1 locs1 hP hD hS => ?_)
  have he := aW_set (X := X) (ad := ad) (h := h) (j := a) (e := aIa n (upd f i.toNatClampNeg x))
  exact k p e s m args below meth c H1 locs1 ls A ad ad0 B ⟨S.1, hS, ⟨by rw [he]; exact hP, by rw [he]; exact hD⟩, S.2.2.2⟩
theorem a_last {a n : Nat} {f : Nat → Int64} {i : Int32} {x : Int64} (hd : decode M.2.1 pc = .ok (.lastore, 1)) (hc : h[a]? = some (aLa n f)) (hin : vp_in i n) (k : aJ l X M F kc ks (pc + 1) L st (h.set a (aLa n (vp_updL f i.toNatClampNeg x)))) : aJ l X M F kc ks pc L (.long x :: .int i :: .ref a :: st) h := by
  intro p e s m args below meth c H locs ls A ad ad0 B S
  refine va_last B.1.1 B.1.2.1 B.2.1.2.1 S.2.2.1.1 S.2.2.1.2 S.2.1 a 1 (aW_at hc) rfl hin hd (fun H1 locs1 hP hD hS => ?_)
  have he := aW_set (X := X) (ad := ad) (h := h) (j := a) (e := aLa n (vp_updL f i.toNatClampNeg x))
  exact k p e s m args below meth c H1 locs1 ls A ad ad0 B ⟨S.1, hS, ⟨by rw [he]; exact hP, by rw [he]; exact hD⟩, S.2.2.2⟩
theorem a_dast {a n : Nat} {f : Nat → UInt64} {i : Int32} {x : UInt64} (hd : decode M.2.1 pc = .ok (.dastore, 1)) (hc : h[a]? = some (aDa n f)) (hin : vp_in i n) (k : aJ l X M F kc ks (pc + 1) L st (h.set a (aDa n (vf_upd f i.toNatClampNeg x)))) : aJ l X M F kc ks pc L (.double x :: .int i :: .ref a :: st) h := by
  intro p e s m args below meth c H locs ls A ad ad0 B S
  refine va_dast B.1.1 B.1.2.1 B.2.1.2.1 S.2.2.1.1 S.2.2.1.2 S.2.1 a 2 (aW_at hc) rfl hin hd (fun H1 locs1 hP hD hS => ?_)
  have he := aW_set (X := X) (ad := ad) (h := h) (j := a) (e := aDa n (vf_upd f i.toNatClampNeg x))
  exact k p e s m args below meth c H1 locs1 ls A ad ad0 B ⟨S.1, hS, ⟨by rw [he]; exact hP, by rw [he]; exact hD⟩, S.2.2.2⟩
theorem a_zast {a n : Nat} {f : Nat → Int32} {i x : Int32} (hd : decode M.2.1 pc = .ok (.bastore, 1)) (hc : h[a]? = some (aBa n f)) (hin : vp_in i n) (k : aJ l X M F kc ks (pc + 1) L st (h.set a (aBa n (upd f i.toNatClampNeg (vp_nar .boolean x))))) : aJ l X M F kc ks pc L (.int x :: .int i :: .ref a :: st) h := by
  intro p e s m args below meth c H locs ls A ad ad0 B S
  refine va_zast B.1.1 B.1.2.1 B.2.1.2.1 S.2.2.1.1 S.2.2.1.2 S.2.1 a 3 (aW_at hc) rfl hin hd (fun H1 locs1 hP hD hS => ?_)
  have he := aW_set (X := X) (ad := ad) (h := h) (j := a) (e := aBa n (upd f i.toNatClampNeg (vp_nar .boolean x)))
  exact k p e s m args below meth c H1 locs1 ls A ad ad0 B ⟨S.1, hS, ⟨by rw [he]; exact hP, by rw [he]; exact hD⟩, S.2.2.2⟩
theorem a_alen {a n : Nat} {f : Nat → Int32} (v : Int32) (hd : decode M.2.1 pc = .ok (.arraylength, 1)) (hc : h[a]? = some (aIa n f)) (hv : Int32.ofNat n = v) (k : aJ l X M F kc ks (pc + 1) L (.int v :: st) h) : aJ l X M F kc ks pc L (.ref a :: st) h :=
  fun p e s m args below meth c H locs ls A ad ad0 B S => va_alen B.1.1 B.1.2.1 B.2.1.2.1 S.2.2.1.1 a 0 (aW_at hc) (ty := .int) rfl hv hd (k p e s m args below meth c H locs ls A ad ad0 B S)
/-- arrays outside -/
theorem a_xald {x : Nat} {i : Int32} (hx : x < 2) (hd : decode M.2.1 pc = .ok (.iaload, 1)) (hin : vp_in i (X.2.2.2.1 x)) (k : aJ l X M F kc ks (pc + 1) L (.int (X.2.2.2.2 x i.toNatClampNeg) :: st) h) : aJ l X M F kc ks pc L (.int i :: .retAddr x :: st) h :=
  fun p e s m args below meth c H locs ls A ad ad0 B S => va_ti B.1.1 B.1.2.1 (B.2.1.2.2.2.2.2.2.2.2 x hx) S.2.1 hin rfl hd (k p e s m args below meth c H locs ls A ad ad0 B S)
theorem a_xlen {x : Nat} (v : Int32) (hx : x < 2) (hd : decode M.2.1 pc = .ok (.arraylength, 1)) (hv : Int32.ofNat (X.2.2.2.1 x) = v) (k : aJ l X M F kc ks (pc + 1) L (.int v :: st) h) : aJ l X M F kc ks pc L (.retAddr x :: st) h :=
  fun p e s m args below meth c H locs ls A ad ad0 B S => va_tlen B.1.1 B.1.2.1 (B.2.1.2.2.2.2.2.2.2.2 x hx) S.2.1 hv hd (k p e s m args below meth c H locs ls A ad ad0 B S)
theorem a_xget {idx : Nat} (hq : aQ (.fieldLink M.1.cls idx "PreferenceTable" "SLOT_COUNTS" "[I")) (hd : decode M.2.1 pc = .ok (.getstatic idx, 3)) (k : aJ l X M F kc ks (pc + 3) L (.retAddr 0 :: st) h) : aJ l X M F kc ks pc L st h :=
  fun p e s m args below meth c H locs ls A ad ad0 B S => va_gets B.1.1 B.1.2.1 B.2.1.2.2.2.2.2.2.2.1 S.2.1 B.1.2.2.2.2.1 (B.2.1.1 _ hq _) (fun _ z => z) hd (k p e s m args below meth c H locs ls A ad ad0 B S)
/-- arrays of references -/
theorem a_aald {a j : Nat} {rl : List (Option Nat)} {i : Int32} {r : Option Nat} (hd : decode M.2.1 pc = .ok (.aaload, 1)) (hc : h[a]? = some (aRa rl)) (hin : vp_in i rl.length) (hj : i.toNatClampNeg = j) (hr : rl[j]? = some r) (k : aJ l X M F kc ks (pc + 1) L (aOr r :: st) h) : aJ l X M F kc ks pc L (.int i :: .ref a :: st) h := by
  intro p e s m args below meth c H locs ls A ad ad0 B S
  have he := aW_at (X := X) (ad := ad) hc
  have hin' : vp_in i (rl.map (fun r => r.map ad)).length := by rw [List.length_map]; exact hin
  refine va_aldq (C := RX4) B.1.1 B.1.2.1 B.2.1.2.1 S.2.2.1.1 a 4 he rfl hin' hd ?_
  have hg : va_rf ((rl.map (fun r => r.map ad)).getD i.toNatClampNeg none) = aV X ad (aOr r) := by
    rw [hj, List.getD_eq_getElem?_getD, List.getElem?_map, hr]
    cases r <;> rfl
  show W _ _ _ _ _ _ _ _ _ _ _ _ _ _ _ (F0 _ _ _ (va_rf ((rl.map (fun r => r.map ad)).getD i.toNatClampNeg none) :: _))
  rw [hg]
  exact k p e s m args below meth c H locs ls A ad ad0 B S
theorem a_aast {a j t : Nat} {rl : List (Option Nat)} {fs : List Value} {i : Int32} (hd : decode M.2.1 pc = .ok (.aastore, 1)) (hc : h[a]? = some (aRa rl)) (ht : h[t]? = some (aOb 4 fs)) (hin : vp_in i rl.length) (hj : i.toNatClampNeg = j) (k : aJ l X M F kc ks (pc + 1) L st (h.set a (aRa (rl.set j (some t))))) : aJ l X M F kc ks pc L (.ref t :: .int i :: .ref a :: st) h := by
  intro p e s m args below meth c H locs ls A ad ad0 B S
  have he := aW_at (X := X) (ad := ad) hc
  have hin' : vp_in i (rl.map (fun r => r.map ad)).length := by rw [List.length_map]; exact hin
  have hlt : j < rl.length := by rw [← hj]; exact Nat.not_le.mp fun q => hin (Or.inr q)
  refine va_astq (r := (RX4, TX4, 2)) B.1.1 B.1.2.1 B.2.1.2.1 S.2.2.1.1 S.2.2.1.2 S.2.1 a 4 t 4 he rfl (aW_at ht) rfl hin' hd (fun H1 locs1 hP hD hS => ?_)
  have hw : aW X ad (h.set a (aRa (rl.set j (some t)))) = (aW X ad h).set a (ad a, .inl (X.2.1 4, (rl.map (fun r => r.map ad)).length, .inr (.inr (.inr (.inr (va_up (fun k => (rl.map (fun r => r.map ad)).getD k none) i.toNatClampNeg (some (ad t)))))))) := by
    rw [aW_set]
    simp only [aRc, aCc, List.length_map, List.length_set]
    congr 2
    refine congrArg Sum.inl (congrArg (fun z => (X.2.1 4, rl.length, Sum.inr (Sum.inr (Sum.inr (Sum.inr z))))) (funext fun q => ?_))
    rw [hj, va_up, List.getD_eq_getElem?_getD, List.getElem?_map, List.getElem?_set]
    by_cases hq : j = q
    · subst hq
      simp [hlt]
    · simp [hq, Ne.symm hq, List.getD_eq_getElem?_getD]
  exact k p e s m args below meth c H1 locs1 ls A ad ad0 B ⟨S.1, hS, ⟨by rw [hw]; exact hP, by rw [hw]; exact hD⟩, S.2.2.2⟩
/-- new cells -/
theorem a_new {ci idx : Nat} {C : String} {T : u_T} {N : Nat} {tyf : Nat → FieldType} {fs : List Value} (hcl : vwCl[ci]? = some (C, T, N)) (hws : ∀ w ∈ u_ws C T N, aQ w) (hty : ∀ k, k < N → parseFieldDescriptor (T k).2.2.1 = some (tyf k)) (hq1 : aQ (.classLink M.1.cls idx C)) (hq2 : aQ (.instantiable C N)) (hq3 : aQ (.initialized C))
    (hd : decode M.2.1 pc = .ok (.new idx, 3)) (hfs : ∀ j, j < N → defaultValue (tyf j) = vp_V fs j) (hid : ∀ f, (fs.map (aRv f)).map (aCv X) = fs) (hok : (L.all (aVo (aBe h.length)) && st.all (aVo (aBe h.length)) && h.all (aCo (aBe h.length)) && F.1.all (aBe h.length)) = true) (hc : kc + 1 ≤ aMc M) (hs : ks + N ≤ aMs M)
    (k : aJ l X M F (kc + 1) (ks + N) (pc + 3) L (.ref h.length :: st) (h ++ [aOb ci fs])) : aJ l X M F kc ks pc L st h := by
  intro p e s m args below meth c H locs ls A ad ad0 B S
  refine va_new (ci := ci) (fs := fs) (C := C) (T := T) (N := N) (Ts := u_ws C T N) B.1.1 B.1.2.1 (fun w hw => B.2.1.1 w (hws w hw) _) (fun _ hw => hw) tyf hty B.1.2.2.2.2.1 (B.2.1.1 _ hq1 _) (B.2.1.1 _ hq2 _) (B.2.1.1 _ hq3 _) B.2.1.2.1 S.2.2.1.1 S.2.2.1.2 S.2.1 B.2.2 hcl hfs hc hs hd (fun q H1 hP hD hS => ?_)
  obtain ⟨u1, u2, u3, u4⟩ := S.up (q := q) (st := st) hok
  have hw : aW X (aUp ad h.length q) (h ++ [aOb ci fs]) = aW X ad h ++ [(q, .inr (ci, fs))] := by
    rw [aW_app, u2]
    simp only [aRc, aCc, hid]
    unfold aUp; rw [if_pos rfl]
  have := k p e s m args below meth c H1 locs ls A (aUp ad h.length q) ad0 B ⟨u1, hS, ⟨by rw [hw]; exact hP, by rw [hw]; exact hD⟩, u3⟩
  have hv : (Value.ref h.length :: st).map (aV X (aUp ad h.length q)) = .ref q :: st.map (aV X ad) := by
    rw [List.map_cons, u4]
    show Value.ref (aUp ad h.length q h.length) :: _ = _
    unfold aUp; rw [if_pos rfl]
  rw [hv] at this
  exact this
theorem a_newaX {atype : ArrayType} {ty : FieldType} {n : Int32} {N : Nat} {a0 : vp_A} {ec : aCell} {t0 : Nat} (hq : aQ (.arrayClass (newarray.typeOf atype))) (hty : newarray.typeOf atype = ty) (hno : ∀ C, ty ≠ .object C) (ht : ∀ X : aX, (aTy X)[t0]? = some (X.2.1 t0, ty)) (hec : ∀ (X : aX) (f : Nat → Nat), aCc X (aRc f ec) = .inl (X.2.1 t0, a0))
    (ha : ∀ cA : ClassId, vp_cell cA a0 = arrV cA N (fun _ => defaultValue ty)) (hn : ¬ n < 0) (hN : n.toNatClampNeg = N) (hb : N * componentBytes ty ≤ 536870912)
    (hd : decode M.2.1 pc = .ok (.newarray atype, 2)) (hok : (L.all (aVo (aBe h.length)) && st.all (aVo (aBe h.length)) && h.all (aCo (aBe h.length)) && F.1.all (aBe h.length)) = true) (hc : kc + 1 ≤ aMc M) (hs : ks + N ≤ aMs M)
    (k : aJ l X M F (kc + 1) (ks + N) (pc + 2) L (.ref h.length :: st) (h ++ [ec])) : aJ l X M F kc ks pc L (.int n :: st) h := by
  intro p e s m args below meth c H locs ls A ad ad0 B S
  refine va_newa (atype := atype) (ty := ty) (a0 := a0) B.1.1 B.1.2.1 (B.2.1.1 _ hq _) hty B.2.1.2.1 S.2.2.1.1 S.2.2.1.2 S.2.1 B.2.2 ha hn hN hb hc hs hd (fun q cA H1 hK hP hD hS => ?_)
  have h1 := (hK.2 5 (cA, ty) rfl).2
  have h2 := (B.2.1.2.1.2 t0 _ (ht X)).2
  have hcA : cA = X.2.1 t0 := by
    cases ty <;> first | exact absurd rfl (hno _) | exact Option.some.inj (h1.symm.trans h2)
  obtain ⟨u1, u2, u3, u4⟩ := S.up (q := q) (st := st) hok
  have hw : aW X (aUp ad h.length q) (h ++ [ec]) = aW X ad h ++ [(q, .inl (cA, a0))] := by
    rw [aW_app, u2, hec, hcA]
    unfold aUp; rw [if_pos rfl]
  have := k p e s m args below meth c H1 locs ls A (aUp ad h.length q) ad0 B ⟨u1, hS, ⟨by rw [hw]; exact hP, by rw [hw]; exact hD⟩, u3⟩
  have hv : (Value.ref h.length :: st).map (aV X (aUp ad h.length q)) = .ref q :: st.map (aV X ad) := by
    rw [List.map_cons, u4]
    show Value.ref (aUp ad h.length q h.length) :: _ = _
    unfold aUp; rw [if_pos rfl]
  rw [hv] at this
  exact this
theorem a_newi {n : Int32} (N : Nat) (hq : aQ (.arrayClass .int)) (hn : ¬ n < 0) (hN : n.toNatClampNeg = N) (hb : N * 4 ≤ 536870912)
    (hd : decode M.2.1 pc = .ok (.newarray .int, 2)) (hok : (L.all (aVo (aBe h.length)) && st.all (aVo (aBe h.length)) && h.all (aCo (aBe h.length)) && F.1.all (aBe h.length)) = true) (hc : kc + 1 ≤ aMc M) (hs : ks + N ≤ aMs M)
    (k : aJ l X M F (kc + 1) (ks + N) (pc + 2) L (.ref h.length :: st) (h ++ [aIa N (fun _ => 0)])) : aJ l X M F kc ks pc L (.int n :: st) h :=
  a_newaX (atype := .int) (ty := .int) (t0 := 0) (a0 := (N, .inl (fun _ => 0))) hq rfl (fun _ z => by cases z) (fun _ => rfl) (fun _ _ => rfl) (fun _ => rfl) hn hN hb hd hok hc hs k
theorem a_newl {n : Int32} (N : Nat) (hq : aQ (.arrayClass .long)) (hn : ¬ n < 0) (hN : n.toNatClampNeg = N) (hb : N * 8 ≤ 536870912)
    (hd : decode M.2.1 pc = .ok (.newarray .long, 2)) (hok : (L.all (aVo (aBe h.length)) && st.all (aVo (aBe h.length)) && h.all (aCo (aBe h.length)) && F.1.all (aBe h.length)) = true) (hc : kc + 1 ≤ aMc M) (hs : ks + N ≤ aMs M)
    (k : aJ l X M F (kc + 1) (ks + N) (pc + 2) L (.ref h.length :: st) (h ++ [aLa N (fun _ => 0)])) : aJ l X M F kc ks pc L (.int n :: st) h :=
  a_newaX (atype := .long) (ty := .long) (t0 := 1) (a0 := (N, .inr (.inl (fun _ => 0)))) hq rfl (fun _ z => by cases z) (fun _ => rfl) (fun _ _ => rfl) (fun _ => rfl) hn hN hb hd hok hc hs k
theorem a_newd {n : Int32} (N : Nat) (hq : aQ (.arrayClass .double)) (hn : ¬ n < 0) (hN : n.toNatClampNeg = N) (hb : N * 8 ≤ 536870912)
    (hd : decode M.2.1 pc = .ok (.newarray .double, 2)) (hok : (L.all (aVo (aBe h.length)) && st.all (aVo (aBe h.length)) && h.all (aCo (aBe h.length)) && F.1.all (aBe h.length)) = true) (hc : kc + 1 ≤ aMc M) (hs : ks + N ≤ aMs M)
    (k : aJ l X M F (kc + 1) (ks + N) (pc + 2) L (.ref h.length :: st) (h ++ [aDa N (fun _ => 0)])) : aJ l X M F kc ks pc L (.int n :: st) h :=
  a_newaX (atype := .double) (ty := .double) (t0 := 2) (a0 := (N, .inr (.inr (.inr (.inl (fun _ => 0)))))) hq rfl (fun _ z => by cases z) (fun _ => rfl) (fun _ _ => rfl) (fun _ => rfl) hn hN hb hd hok hc hs k
theorem a_newz {n : Int32} (N : Nat) (hq : aQ (.arrayClass .boolean)) (hn : ¬ n < 0) (hN : n.toNatClampNeg = N) (hb : N * 1 ≤ 536870912)
    (hd : decode M.2.1 pc = .ok (.newarray .boolean, 2)) (hok : (L.all (aVo (aBe h.length)) && st.all (aVo (aBe h.length)) && h.all (aCo (aBe h.length)) && F.1.all (aBe h.length)) = true) (hc : kc + 1 ≤ aMc M) (hs : ks + N ≤ aMs M)
    (k : aJ l X M F (kc + 1) (ks + N) (pc + 2) L (.ref h.length :: st) (h ++ [aBa N (fun _ => 0)])) : aJ l X M F kc ks pc L (.int n :: st) h :=
  a_newaX (atype := .boolean) (ty := .boolean) (t0 := 3) (a0 := (N, .inl (fun _ => 0))) hq rfl (fun _ z => by cases z) (fun _ => rfl) (fun _ _ => rfl) (fun _ => rfl) hn hN hb hd hok hc hs k
theorem a_newr {n : Int32} (N : Nat) {idx : Nat} (hq : aQ (.classLink M.1.cls idx RX4)) (hn : ¬ n < 0) (hN : n.toNatClampNeg = N) (hb : N * 4 ≤ 536870912)
    (hd : decode M.2.1 pc = .ok (.anewarray idx, 3)) (hok : (L.all (aVo (aBe h.length)) && st.all (aVo (aBe h.length)) && h.all (aCo (aBe h.length)) && F.1.all (aBe h.length)) = true) (hc : kc + 1 ≤ aMc M) (hs : ks + N ≤ aMs M)
    (k : aJ l X M F (kc + 1) (ks + N) (pc + 3) L (.ref h.length :: st) (h ++ [aRa (List.replicate N none)])) : aJ l X M F kc ks pc L (.int n :: st) h := by
  intro p e s m args below meth c H locs ls A ad ad0 B S
  refine va_newq (C := RX4) B.1.1 B.1.2.1 B.1.2.2.2.2.1 (B.2.1.1 _ hq _) B.2.1.2.2.1 B.2.1.2.1 S.2.2.1.1 S.2.2.1.2 S.2.1 B.2.2 hn hN hb hc hs hd (fun q cA H1 hK hP hD hS => ?_)
  have h1 := (hK.2 5 (cA, .object RX4) rfl).2
  have h2 := (B.2.1.2.1.2 4 (X.2.1 4, .object RX4) rfl).2
  have hcA : cA = X.2.1 4 := by
    obtain ⟨_, _, _, _, _, g1⟩ := h1
    obtain ⟨_, _, _, _, _, g2⟩ := h2
    exact Option.some.inj (g1.symm.trans g2)
  obtain ⟨u1, u2, u3, u4⟩ := S.up (q := q) (st := st) hok
  have hw : aW X (aUp ad h.length q) (h ++ [aRa (List.replicate N none)]) = aW X ad h ++ [(q, .inl (cA, N, .inr (.inr (.inr (.inr (fun _ => none))))))] := by
    rw [aW_app, u2, hcA]
    have hfn : ∀ z : Option Nat, z = none → (fun k => (List.replicate N z).getD k none) = (fun _ => (none : Option Nat)) := fun z hz => funext fun y => by
      rw [List.getD_eq_getElem?_getD, List.getElem?_replicate]
      by_cases hy : y < N <;> simp [hy, hz]
    simp only [aRc, aCc, List.length_map, List.length_replicate, List.map_replicate]
    rw [hfn (Option.map (aUp ad h.length q) none) rfl]
    unfold aUp; rw [if_pos rfl]
  have := k p e s m args below meth c H1 locs ls A (aUp ad h.length q) ad0 B ⟨u1, hS, ⟨by rw [hw]; exact hP, by rw [hw]; exact hD⟩, u3⟩
  have hv : (Value.ref h.length :: st).map (aV X (aUp ad h.length q)) = .ref q :: st.map (aV X ad) := by
    rw [List.map_cons, u4]
    show Value.ref (aUp ad h.length q h.length) :: _ = _
    unfold aUp; rw [if_pos rfl]
  rw [hv] at this
  exact this
/-- Object.<init> -/
theorem a_objInit {a idx : Nat} (hq1 : aQ (.methodLink M.1.cls idx objectInit)) (hq2 : aQ (.instanceMethod objectInit)) (hq3 : aQ (.code objectInit ⟨#[0xb1]⟩ 1 none)) (hd : decode M.2.1 pc = .ok (.invokespecial idx, 3)) (hf : 1 ≤ M.2.2.2.2.2.1) (hl : (st.map fun v => v.category).sum + 12 ≤ M.2.2.2.2.2.2.1)
    (k : aJ l X M F kc ks (pc + 3) L st h) : aJ l X M F kc ks pc L (.ref a :: st) h := by
  intro p e s m args below meth c H locs ls A ad ad0 B S
  refine W.objInit B.1.1 B.1.2.1 B.1.2.2.2.2.1 (B.2.1.1 _ hq1 _) (B.2.1.1 _ hq2 _) (B.2.1.1 _ hq3 _) rfl (by rw [B.1.2.2.2.1]; exact S.2.2.2.1) (rest := st.map (aV X ad)) rfl hd hf ?_ (k p e s m args below meth c H locs ls A ad ad0 B S)
  show 2 * 0 + ((st.map (aV X ad)).map fun v => v.category).sum + 12 ≤ M.2.2.2.2.2.2.1
  rw [aVs_cat]
  omega
/-- Math.max, Math.min of ints -/
theorem a_max {x y : Int32} {idx : Nat} (hq1 : aQ (.methodLink M.1.cls idx Lib.Math.max.name)) (hq2 : aQ (.static Lib.Math.max.name)) (hq3 : aQ (.initialized "java/lang/Math")) (hq4 : aQ (.code Lib.Math.max.name Lib.Math.max.code 2 (some .int))) (hd : decode M.2.1 pc = .ok (.invokestatic idx, 3)) (hf : 1 ≤ M.2.2.2.2.2.1) (hl : (st.map fun v => v.category).sum + 13 ≤ M.2.2.2.2.2.2.1) (hc : kc ≤ aMc M) (hs : ks ≤ aMs M)
    (k : aJ l X M F kc ks (pc + 3) L (.int (if x < y then y else x) :: st) h) : aJ l X M F kc ks pc L (.int y :: .int x :: st) h :=
  fun p e s m args below meth c H locs ls A ad ad0 B S => va_mmax B.1.1 B.1.2.1 (B.1.2.2.2.1.trans S.2.2.2.1.symm) B.1.2.2.2.2.1 (B.2.1.1 _ hq1 _) (B.2.1.1 _ hq2 _) (B.2.1.1 _ hq3 _) (B.2.1.1 _ hq4 _) hf (by rw [aVs_cat]; exact hl) hc hs hd (k p e s m args below meth c H locs ls A ad ad0 B S)
theorem a_min {x y : Int32} {idx : Nat} (hq1 : aQ (.methodLink M.1.cls idx Lib.Math.min.name)) (hq2 : aQ (.static Lib.Math.min.name)) (hq3 : aQ (.initialized "java/lang/Math")) (hq4 : aQ (.code Lib.Math.min.name Lib.Math.min.code 2 (some .int))) (hd : decode M.2.1 pc = .ok (.invokestatic idx, 3)) (hf : 1 ≤ M.2.2.2.2.2.1) (hl : (st.map fun v => v.category).sum + 13 ≤ M.2.2.2.2.2.2.1) (hc : kc ≤ aMc M) (hs : ks ≤ aMs M)
    (k : aJ l X M F kc ks (pc + 3) L (.int (if y < x then y else x) :: st) h) : aJ l X M F kc ks pc L (.int y :: .int x :: st) h :=
  fun p e s m args below meth c H locs ls A ad ad0 B S => va_mmin B.1.1 B.1.2.1 (B.1.2.2.2.1.trans S.2.2.2.1.symm) B.1.2.2.2.2.1 (B.2.1.1 _ hq1 _) (B.2.1.1 _ hq2 _) (B.2.1.1 _ hq3 _) (B.2.1.1 _ hq4 _) hf (by rw [aVs_cat]; exact hl) hc hs hd (k p e s m args below meth c H locs ls A ad ad0 B S)
end AMR
section ARE
variable {l : Launch} {X : aX} {M : aM} {rs : List Nat} {Q : aQt} {kc ks pc : Nat} {L st : List Value} {h : List aCell}
/-- returns -/
theorem a_iret {v : Int32} (hr : M.2.2.2.1 = some .int) (hd : decode M.2.1 pc = .ok (.ireturn, 1)) (hc : kc ≤ aMc M) (hs : ks ≤ aMs M) (hq : Q (.inl (some (.int v))) h) : aJ l X M (aEd X M rs Q) kc ks pc L [.int v] h :=
  fun p e s m args below meth c H locs ls A ad ad0 B S => vx_ret (W.widen hc hs (W.iret B.1.1 B.1.2.1 (B.1.2.2.1.trans hr) (fun t ht hW => ⟨⟨some (.int v), ad, h, rfl, hq, S.1, by rw [ht]; exact S.2.2.1⟩, S.2.1.F ht⟩) S.2.1.2.2 hd B.1.2.2.2.2.2.1))
theorem a_zret {v : Int32} (hr : M.2.2.2.1 = some .boolean) (hn : narrow .boolean (.int v) = .int v) (hd : decode M.2.1 pc = .ok (.ireturn, 1)) (hc : kc ≤ aMc M) (hs : ks ≤ aMs M) (hq : Q (.inl (some (.int v))) h) : aJ l X M (aEd X M rs Q) kc ks pc L [.int v] h :=
  fun p e s m args below meth c H locs ls A ad ad0 B S => vx_ret (W.widen hc hs (W.zret B.1.1 B.1.2.1 (B.1.2.2.1.trans hr) hn (fun t ht hW => ⟨⟨some (.int v), ad, h, rfl, hq, S.1, by rw [ht]; exact S.2.2.1⟩, S.2.1.F ht⟩) S.2.1.2.2 hd B.1.2.2.2.2.2.1))
theorem a_lret {v : Int64} (hr : M.2.2.2.1 = some .long) (hd : decode M.2.1 pc = .ok (.lreturn, 1)) (hc : kc ≤ aMc M) (hs : ks ≤ aMs M) (hq : Q (.inl (some (.long v))) h) : aJ l X M (aEd X M rs Q) kc ks pc L [.long v] h :=
  fun p e s m args below meth c H locs ls A ad ad0 B S => vx_ret (W.widen hc hs (W.lret B.1.1 B.1.2.1 (B.1.2.2.1.trans hr) (fun t ht hW => ⟨⟨some (.long v), ad, h, rfl, hq, S.1, by rw [ht]; exact S.2.2.1⟩, S.2.1.F ht⟩) S.2.1.2.2 hd B.1.2.2.2.2.2.1))
theorem a_dret {v : UInt64} (hr : M.2.2.2.1 = some .double) (hd : decode M.2.1 pc = .ok (.dreturn, 1)) (hc : kc ≤ aMc M) (hs : ks ≤ aMs M) (hq : Q (.inl (some (.double v))) h) : aJ l X M (aEd X M rs Q) kc ks pc L [.double v] h :=
  fun p e s m args below meth c H locs ls A ad ad0 B S => vx_ret (W.widen hc hs (W.dret B.1.1 B.1.2.1 (B.1.2.2.1.trans hr) (fun t ht hW => ⟨⟨some (.double v), ad, h, rfl, hq, S.1, by rw [ht]; exact S.2.2.1⟩, S.2.1.F ht⟩) S.2.1.2.2 hd B.1.2.2.2.2.2.1))
theorem a_vret (hr : M.2.2.2.1 = none) (hd : decode M.2.1 pc = .ok (.return_, 1)) (hc : kc ≤ aMc M) (hs : ks ≤ aMs M) (hq : Q (.inl none) h) : aJ l X M (aEd X M rs Q) kc ks pc L [] h :=
  fun p e s m args below meth c H locs ls A ad ad0 B S => vx_ret (W.widen hc hs (W.vret B.1.1 B.1.2.1 (B.1.2.2.1.trans hr) (fun t ht hW => ⟨⟨none, ad, h, rfl, hq, S.1, by rw [ht]; exact S.2.2.1⟩, S.2.1.F ht⟩) S.2.1.2.2 hd B.1.2.2.2.2.2.1))
end ARE
