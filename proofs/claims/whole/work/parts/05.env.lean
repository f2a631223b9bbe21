/-! ===== what holds throughout the run: words of the tables, statics, constants ===== -/
def aWk (w : Cond) : Bool := goodWord w || (match w with
  | .castable .. => true
  | .methodLinkNest .. => true
  | .declares _ => true
  | _ => false)
/-- a word that may be used anywhere -/
def aQ (w : Cond) : Prop := w ∈ lw_tbl ∧ aWk w = true
theorem aQ.at {w : Cond} (i : Nat) (h : lw_tbl[i]? = some w) (hg : aWk w = true) : aQ w := ⟨List.mem_of_getElem? h, hg⟩
def aTb (U : State) : Prop := ∀ w, aQ w → ∀ a : Array Value, w.before a U = true
theorem aTb.warm {s U : State} (hW : s.WarmedH U.vm) (h : aTb s) : aTb U := by
  intro w hw a
  have hb := h w hw #[]
  have hk := hw.2
  simp only [aWk, Bool.or_eq_true] at hk
  rcases hk with hk | hk
  · exact word_at hW (good_of_word hk) hb
  · cases w <;> first | (exact va_Nw.use rfl (va_Nw.warmC hW (va_Nw.of rfl hb))) | (exact va_Nw.use rfl (va_Nw.warmM hW (va_Nw.of rfl hb))) | (exact va_Nw.use rfl (va_Nw.warmD hW (va_Nw.of rfl hb))) | (cases hk)
def aTy (X : aX) : List (ClassId × FieldType) := [(X.2.1 0, .int), (X.2.1 1, .long), (X.2.1 2, .double), (X.2.1 3, .boolean), (X.2.1 4, .object RX4)]
def aZr : String := Bundle.tN
/-- the texts of the class's exceptions: class, entry, text -/
def aTx (U : State) : Prop := ∀ q ∈ lw_tbl, ∀ (own : String) (k : Nat) (tx : String), q = .stringRef own k tx → ∃ a, vk_R own k tx a U
theorem aTx.warm {s U : State} (hW : s.WarmedH U.vm) (h : aTx s) : aTx U := by
  intro q hq own k tx e
  obtain ⟨a, ha⟩ := h q hq own k tx e
  exact ⟨a, ha.warm hW⟩
def aNc (U : State) : Prop := va_Nc "java/lang/IllegalStateException" "java/lang/IllegalArgumentException" U
/-- statics and outside arrays, where they lie -/
def aSt (X : aX) (A : Nat → Prop) (U : State) (H : Heap) : Prop :=
  vx_Zq Bundle.tN "UNASSIGNED_STACK" Bundle.steD A U H ∧ vx_Zq Bundle.tN "SUPPRESSED_SENTINEL" Bundle.listD A U H ∧ va_Z "PreferenceTable" "SLOT_COUNTS" "[I" (.ref (X.2.2.1 0)) A U H ∧ ∀ k, k < 2 → va_T .int (X.2.2.1 k) (X.2.2.2.1 k) (fun j => .int (X.2.2.2.2 k j)) A U H
theorem aSt.moved {X : aX} {A : Nat → Prop} {u U : State} {H : Heap} (hvm : u.vm.Alike U.vm) (h : aSt X A u H) : aSt X A U H :=
  ⟨h.1.moved hvm, h.2.1.moved hvm, h.2.2.1.moved hvm, fun k hk => (h.2.2.2 k hk).moved hvm⟩
theorem aSt.kept {X : aX} {A : Nat → Prop} {U : State} {H H1 : Heap} (h : aSt X A U H) (hq : ∀ a : Nat, a < H.size → ¬ A a → H1[a]? = H[a]?) : aSt X A U H1 :=
  ⟨h.1.kept hq, h.2.1.kept hq, h.2.2.1.kept hq, fun k hk => (h.2.2.2 k hk).kept hq⟩
theorem aSt.narrow {X : aX} {A B : Nat → Prop} {U : State} {H : Heap} (h : aSt X A U H) (hAB : ∀ q, B q → A q) : aSt X B U H :=
  ⟨h.1.narrow hAB, h.2.1.narrow hAB, h.2.2.1.narrow hAB, fun k hk => (h.2.2.2 k hk).narrow hAB⟩
def aEn (X : aX) (A : Nat → Prop) (U : State) (H : Heap) : Prop :=
  aTb U ∧ va_K X.1 vwCl (aTy X) U ∧ va_AO RX4 U ∧ aTx U ∧ aNc U ∧ aSt X A U H
theorem aEn.warm {X : aX} {A : Nat → Prop} {u U : State} {H : Heap} (hW : u.WarmedH U.vm) (h : aEn X A u H) : aEn X A U H :=
  ⟨h.1.warm hW, h.2.1.moved hW.alike, h.2.2.1.moved hW.alike, h.2.2.2.1.warm hW, h.2.2.2.2.1.moved hW.alike, h.2.2.2.2.2.moved hW.alike⟩
theorem aEn.kept {X : aX} {A : Nat → Prop} {U : State} {H H1 : Heap} (h : aEn X A U H) (hq : ∀ a : Nat, a < H.size → ¬ A a → H1[a]? = H[a]?) : aEn X A U H1 :=
  ⟨h.1, h.2.1, h.2.2.1, h.2.2.2.1, h.2.2.2.2.1, h.2.2.2.2.2.kept hq⟩
theorem aEn.narrow {X : aX} {A B : Nat → Prop} {U : State} {H : Heap} (h : aEn X A U H) (hAB : ∀ q, B q → A q) : aEn X B U H :=
  ⟨h.1, h.2.1, h.2.2.1, h.2.2.2.1, h.2.2.2.2.1, h.2.2.2.2.2.narrow hAB⟩
/-! ===== a method, and the judgement of a point of its walk ===== -/
/-- name, bytes, locals, answer, handlers, then its room: frames, words, cells, slots -/
abbrev aM : Type := MethodName × ByteArray × Nat × Option FieldType × List (Nat × Nat × Nat × Nat) × Nat × Nat × Nat × Nat
abbrev aRm (M : aM) : Room := { frames := M.2.2.2.2.2.1, cells := M.2.2.2.2.2.2.2.1, slots := M.2.2.2.2.2.2.2.2, locals := M.2.2.2.2.2.2.1 }
abbrev aMc (M : aM) : Nat := M.2.2.2.2.2.2.2.1
abbrev aMs (M : aM) : Nat := M.2.2.2.2.2.2.2.2
/-- the word of its code -/
def aCd (M : aM) : Cond := match M.2.2.2.2.1 with
  | [] => .code M.1 M.2.1 M.2.2.1 M.2.2.2.1
  | q :: l => .codeWith M.1 M.2.1 M.2.2.1 M.2.2.2.1 (q :: l)
def aFx (M : aM) (p : Program) (s : State) (m : MethodId) (meth : Method) (c : Code) : Prop :=
  p.tables.exec = Jvm.exec ∧ c.code = M.2.1 ∧ meth.sig.returnType = M.2.2.2.1 ∧ c.maxLocals = M.2.2.1 ∧ s.vm.findClass M.1.cls = some m.cls ∧ meth.locks = false ∧ meth.name = M.1.name ∧ c.exceptionTable.toList = tableOf M.2.2.2.2.1
/-- how a walk ends: roots, and what it owes -/
abbrev aPh : Type := List Nat × (State → Array Value → List Frame → (Nat → Prop) → (Nat → Nat) → State → Prop)
def aBs (X : aX) (M : aM) (p : Program) (s : State) (m : MethodId) (meth : Method) (c : Code) (A : Nat → Prop) : Prop :=
  aFx M p s m meth c ∧ aEn X A s s.heap ∧ ∀ q, s.heap.size ≤ q → A q
def aHp (X : aX) (ad : Nat → Nat) (h : List aCell) (A : Nat → Prop) (H : Heap) : Prop := va_P X.1 vwCl (aW X ad h) H ∧ va_D A (aW X ad h)
def aPt (X : aX) (M : aM) (rs : List Nat) (A : Nat → Prop) (H0 : Heap) (ad0 : Nat → Nat) (L : List Value) (h : List aCell) (ad : Nat → Nat) (H : Heap) (locs : List Loc) (ls : Array Slot) : Prop :=
  (∀ i ∈ rs, ad i = ad0 i) ∧ va_S A H0 H locs ∧ aHp X ad h A H ∧ aLv X ad ls M.2.2.1 L
def aJ (l : Launch) (X : aX) (M : aM) (F : aPh) (kc ks pc : Nat) (L st : List Value) (h : List aCell) : Prop :=
  ∀ (p : Program) (e : Env) (s : State) (m : MethodId) (args : Array Value) (below : List Frame) (meth : Method) (c : Code) (H : Heap) (locs : List Loc) (ls : Array Slot) (A : Nat → Prop) (ad ad0 : Nat → Nat),
    aBs X M p s m meth c A → aPt X M F.1 A s.heap ad0 L h ad H locs ls →
    W p l e (aRm M) s m args below meth c H locs kc ks (F.2 s args below A ad0) (F0 m pc ls (st.map (aV X ad)))
/-- the class E has been thrown at pc -/
def aT (l : Launch) (X : aX) (M : aM) (F : aPh) (kc ks pc : Nat) (E : String) (L st : List Value) (h : List aCell) : Prop :=
  ∀ (p : Program) (e : Env) (s : State) (m : MethodId) (args : Array Value) (below : List Frame) (meth : Method) (c : Code) (H : Heap) (locs : List Loc) (ls : Array Slot) (A : Nat → Prop) (ad ad0 : Nat → Nat) (q : Addr) (ce : Cell),
    aBs X M p s m meth c A → aPt X M F.1 A s.heap ad0 L h ad H locs ls → H[q]? = some ce → ce.vm = .none → s.vm.findClass E = some ce.cls →
    vx_W p l e (aRm M) s m args below meth c H locs kc ks (F.2 s args below A ad0) (F0 m pc ls (st.map (aV X ad))) q
/-- a contract: what is answered or thrown, and the cells behind it -/
abbrev aQt : Type := (Option Value) ⊕ String → List aCell → Prop
def aQc (X : aX) (rs : List Nat) (ad0 : Nat → Nat) (A : Nat → Prop) (Q : aQt) : Array Value → State → Outcome → State → Prop := fun _ st o t =>
  (∃ (v : Option Value) (ad : Nat → Nat) (h : List aCell), o = .returned (v.map (aV X ad)) ∧ Q (.inl v) h ∧ (∀ i ∈ rs, ad i = ad0 i) ∧ aHp X ad h A t.heap) ∧ va_F A st t
def aXc (X : aX) (rs : List Nat) (ad0 : Nat → Nat) (A : Nat → Prop) (Q : aQt) : String → State → State → Prop := fun E st t =>
  (∃ (ad : Nat → Nat) (h : List aCell), Q (.inr E) h ∧ (∀ i ∈ rs, ad i = ad0 i) ∧ aHp X ad h A t.heap) ∧ va_F A st t
abbrev aEd (X : aX) (M : aM) (rs : List Nat) (Q : aQt) : aPh := (rs, fun s args below A ad0 => vx_MQ below (aQc X rs ad0 A Q) (aXc X rs ad0 A Q) args s (aMc M) (aMs M) A)
def aMt (l : Launch) (X : aX) (M : aM) (rs : List Nat) (av : List Value) (h : List aCell) (Q : aQt) : Prop :=
  ∀ (ad : Nat → Nat) (sz : Nat), vx_Met l M.1 [aCd M] (aRm M) (va_Pc (av.map (aV X ad)) (fun U => U.heap.size = sz ∧ va_P X.1 vwCl (aW X ad h) U.heap ∧ va_D (fun _ => True) (aW X ad h) ∧ aEn X (va_A (aW X ad h) sz) U U.heap))
    (aQc X rs ad (va_A (aW X ad h) sz) Q) (aXc X rs ad (va_A (aW X ad h) sz) Q) (aMc M) (aMs M) (va_A (aW X ad h) sz)
/-- a contract out of the walk of a body (a method without handlers) -/
theorem aMt.of {l : Launch} {X : aX} {M : aM} {rs : List Nat} {av : List Value} {h : List aCell} {Q : aQt} (hy : plainName M.1.cls = true) (hh : M.2.2.2.2.1 = []) (hn : (aArg av).length ≤ M.2.2.1)
    (k : aJ l X M (aEd X M rs Q) 0 0 0 (aPad av M.2.2.1) [] h) : aMt l X M rs av h Q := by
  intro ad sz
  have hcd : aCd M = .code M.1 M.2.1 M.2.2.1 M.2.2.2.1 := by unfold aCd; rw [hh]
  refine vx_ofW (cc := M.2.1) (maxL := M.2.2.1) (ret := M.2.2.2.1) (ws' := []) hy (by rw [hcd]) ?_
  intro p e s m args below meth c s₁ B hml ht hv
  obtain ⟨rfl, hsz, hP, hD0, hE⟩ := hv
  have hown : s.vm.findClass M.1.cls = some m.cls := findClass_of_methodNamed B.named
  have hnm : meth.name = M.1.name := (name_of_methodNamed B.named B.method).1
  have htab : c.exceptionTable.toList = tableOf M.2.2.2.2.1 := by
    rw [hh]
    exact List.eq_nil_iff_forall_not_mem.mpr ht
  subst hsz
  have hD := hD0.self (sz := s.heap.size)
  rw [lg_entry_eq]
  exact k p e s m _ below meth c s.heap [] _ (va_A (aW X ad h) s.heap.size) ad ad ⟨⟨B.exec, B.bytes, B.returns, hml, hown, B.notSynchronized, hnm, htab⟩, hE, fun q hq => Or.inr hq⟩
    ⟨fun _ _ => rfl, va_S.rf, ⟨hP, hD⟩, aLv.entry X ad av hn⟩
/-- a contract out of the walk of a body with handlers -/
theorem aMt.ofH {l : Launch} {X : aX} {M : aM} {rs : List Nat} {av : List Value} {h : List aCell} {Q : aQt} (hy : plainName M.1.cls = true) (hcd : aCd M = .codeWith M.1 M.2.1 M.2.2.1 M.2.2.2.1 M.2.2.2.2.1) (hn : (aArg av).length ≤ M.2.2.1)
    (k : aJ l X M (aEd X M rs Q) 0 0 0 (aPad av M.2.2.1) [] h) : aMt l X M rs av h Q := by
  intro ad sz
  refine vx_ofWH (cc := M.2.1) (maxL := M.2.2.1) (ret := M.2.2.2.1) (hh := M.2.2.2.2.1) (ws' := []) hy (by rw [hcd]) ?_
  intro p e s m args below meth c s₁ B hml hv
  obtain ⟨rfl, hsz, hP, hD0, hE⟩ := hv
  have hown : s.vm.findClass M.1.cls = some m.cls := findClass_of_methodNamed B.named
  have hnm : meth.name = M.1.name := (name_of_methodNamed B.named B.method).1
  have hw : (aCd M).before (av.map (aV X ad)).toArray s = true := atoms_spec (ws := [aCd M]) B.pre _ List.mem_cons_self
  rw [hcd] at hw
  have htab : c.exceptionTable.toList = tableOf M.2.2.2.2.1 := vx_table (x := M.1) B hw
  subst hsz
  have hD := hD0.self (sz := s.heap.size)
  rw [lg_entry_eq]
  exact k p e s m _ below meth c s.heap [] _ (va_A (aW X ad h) s.heap.size) ad ad ⟨⟨B.exec, B.bytes, B.returns, hml, hown, B.notSynchronized, hnm, htab⟩, hE, fun q hq => Or.inr hq⟩
    ⟨fun _ _ => rfl, va_S.rf, ⟨hP, hD⟩, aLv.entry X ad av hn⟩
