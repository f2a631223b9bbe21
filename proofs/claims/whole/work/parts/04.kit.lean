/-! ===== pictures: a method's world as a list of cells, a reference is a place in the list ===== -/
/-- X: classes and slots; the class of an array by its kind (0 int, 1 long, 2 double, 3 boolean, 4 Snapshot); arrays outside: address, length, contents -/
abbrev aX : Type := va_G × (Nat → ClassId) × (Nat → Nat) × (Nat → Nat) × (Nat → Nat → Int32)
abbrev aCell : Type := (Nat × List Value) ⊕ (Nat × ((Nat → Int32) ⊕ (Nat → Int64) ⊕ (Nat → UInt64) ⊕ (Nat → Int32))) ⊕ List (Option Nat)
abbrev aOb (ci : Nat) (fs : List Value) : aCell := .inl (ci, fs)
abbrev aIa (n : Nat) (f : Nat → Int32) : aCell := .inr (.inl (n, .inl f))
abbrev aLa (n : Nat) (f : Nat → Int64) : aCell := .inr (.inl (n, .inr (.inl f)))
abbrev aDa (n : Nat) (f : Nat → UInt64) : aCell := .inr (.inl (n, .inr (.inr (.inl f))))
abbrev aBa (n : Nat) (f : Nat → Int32) : aCell := .inr (.inl (n, .inr (.inr (.inr f))))
abbrev aRa (l : List (Option Nat)) : aCell := .inr (.inr l)
/-- references renamed -/
def aRv (f : Nat → Nat) (v : Value) : Value := match v with
  | .ref i => .ref (f i)
  | v => v
def aRc (f : Nat → Nat) (e : aCell) : aCell := match e with
  | .inl o => .inl (o.1, o.2.map (aRv f))
  | .inr (.inl a) => .inr (.inl a)
  | .inr (.inr l) => .inr (.inr (l.map (fun r => r.map f)))
/-- an array outside is written retAddr k -/
def aCv (X : aX) (v : Value) : Value := match v with
  | .retAddr k => .ref (X.2.2.1 k)
  | v => v
def aCc (X : aX) (e : aCell) : va_E := match e with
  | .inl o => .inr (o.1, o.2.map (aCv X))
  | .inr (.inl (n, .inl f)) => .inl (X.2.1 0, n, .inl f)
  | .inr (.inl (n, .inr (.inl f))) => .inl (X.2.1 1, n, .inr (.inl f))
  | .inr (.inl (n, .inr (.inr (.inl f)))) => .inl (X.2.1 2, n, .inr (.inr (.inr (.inl f))))
  | .inr (.inl (n, .inr (.inr (.inr f)))) => .inl (X.2.1 3, n, .inl f)
  | .inr (.inr l) => .inl (X.2.1 4, l.length, .inr (.inr (.inr (.inr (fun k => l.getD k none)))))
/-- map with places -/
def aMx {α β : Type} (g : Nat → α → β) : Nat → List α → List β
  | _, [] => []
  | i, e :: l => g i e :: aMx g (i + 1) l
theorem aMx_get {α β : Type} (g : Nat → α → β) : ∀ (l : List α) (i j : Nat), (aMx g i l)[j]? = (l[j]?).map (g (i + j))
  | [], i, j => by simp [aMx]
  | e :: l, i, 0 => by simp [aMx]
  | e :: l, i, j + 1 => by
    simp only [aMx, List.getElem?_cons_succ]
    rw [aMx_get g l (i + 1) j]
    rw [show i + 1 + j = i + (j + 1) by omega]
theorem aMx_len {α β : Type} (g : Nat → α → β) : ∀ (l : List α) (i : Nat), (aMx g i l).length = l.length
  | [], i => rfl
  | e :: l, i => by simp [aMx, aMx_len g l (i + 1)]
def aW (X : aX) (ad : Nat → Nat) (h : List aCell) : va_W := aMx (fun i e => (ad i, aCc X (aRc ad e))) 0 h
theorem aW_get (X : aX) (ad : Nat → Nat) (h : List aCell) (j : Nat) : (aW X ad h)[j]? = (h[j]?).map (fun e => (ad j, aCc X (aRc ad e))) := by
  rw [aW, aMx_get, Nat.zero_add]
theorem aW_at {X : aX} {ad : Nat → Nat} {h : List aCell} {j : Nat} {e : aCell} (hj : h[j]? = some e) : (aW X ad h)[j]? = some (ad j, aCc X (aRc ad e)) := by
  rw [aW_get, hj]; rfl
theorem aW_of {X : aX} {ad : Nat → Nat} {h : List aCell} {j : Nat} {q : Nat × va_E} (hj : (aW X ad h)[j]? = some q) : ∃ e, h[j]? = some e ∧ q = (ad j, aCc X (aRc ad e)) := by
  rw [aW_get] at hj
  cases he : h[j]? with
  | none => rw [he] at hj; cases hj
  | some e => rw [he] at hj; exact ⟨e, rfl, (Option.some.inj hj).symm⟩
theorem aW_set {X : aX} {ad : Nat → Nat} {h : List aCell} {j : Nat} {e : aCell} : aW X ad (h.set j e) = (aW X ad h).set j (ad j, aCc X (aRc ad e)) := by
  apply List.ext_getElem?
  intro i
  rw [aW_get, List.getElem?_set, List.getElem?_set, aW_get, aW, aMx_len]
  by_cases hij : j = i
  · subst hij
    by_cases hl : j < h.length
    · simp [hl]
    · simp [hl]
  · simp [hij]
theorem aRv_comp (f g : Nat → Nat) (v : Value) : aRv f (aRv g v) = aRv (fun i => f (g i)) v := by cases v <;> rfl
theorem aRc_comp (f g : Nat → Nat) (e : aCell) : aRc f (aRc g e) = aRc (fun i => f (g i)) e := by
  rcases e with ⟨ci, fs⟩ | a | l
  · simp only [aRc, List.map_map]
    congr 2
    apply List.map_congr_left
    intro v _
    exact aRv_comp f g v
  · rfl
  · simp only [aRc, List.map_map]
    congr 2
    apply List.map_congr_left
    intro r _
    cases r <;> rfl
/-- all references satisfy p -/
def aVo (p : Nat → Bool) (v : Value) : Bool := match v with
  | .ref i => p i
  | _ => true
def aCo (p : Nat → Bool) (e : aCell) : Bool := match e with
  | .inl o => o.2.all (aVo p)
  | .inr (.inl _) => true
  | .inr (.inr l) => l.all (fun r => match r with | some i => p i | none => true)
theorem aRv_congr {p : Nat → Bool} {f g : Nat → Nat} (hp : ∀ i, p i = true → f i = g i) {v : Value} (h : aVo p v = true) : aRv f v = aRv g v := by
  cases v <;> simp_all [aRv, aVo]
theorem aRc_congr {p : Nat → Bool} {f g : Nat → Nat} (hp : ∀ i, p i = true → f i = g i) {e : aCell} (h : aCo p e = true) : aRc f e = aRc g e := by
  rcases e with ⟨ci, fs⟩ | a | l
  · simp only [aRc]
    congr 2
    apply List.map_congr_left
    intro v hv
    exact aRv_congr hp (List.all_eq_true.mp h v hv)
  · rfl
  · simp only [aRc]
    congr 2
    apply List.map_congr_left
    intro r hr
    have := List.all_eq_true.mp h r hr
    cases r with
    | none => rfl
    | some i => exact congrArg some (hp i this)
/-- a value, as the machine has it -/
abbrev aV (X : aX) (ad : Nat → Nat) (v : Value) : Value := aCv X (aRv ad v)
theorem aV_cat (X : aX) (ad : Nat → Nat) (v : Value) : (aV X ad v).category = v.category := by cases v <;> rfl
theorem aV_congr {p : Nat → Bool} {f g : Nat → Nat} {X : aX} (hp : ∀ i, p i = true → f i = g i) {v : Value} (h : aVo p v = true) : aV X f v = aV X g v := by
  unfold aV; rw [aRv_congr hp h]
theorem aVs_congr {p : Nat → Bool} {f g : Nat → Nat} {X : aX} (hp : ∀ i, p i = true → f i = g i) {l : List Value} (h : l.all (aVo p) = true) : l.map (aV X f) = l.map (aV X g) :=
  List.map_congr_left fun v hv => aV_congr hp (List.all_eq_true.mp h v hv)
theorem aVs_cat (X : aX) (ad : Nat → Nat) (l : List Value) : ((l.map (aV X ad)).map fun v => v.category).sum = (l.map fun v => v.category).sum := by
  rw [List.map_map]
  congr 1
  exact List.map_congr_left fun v _ => aV_cat X ad v
/-! ===== locals by their places; null: nothing is known ===== -/
def aLv (X : aX) (ad : Nat → Nat) (ls : Array Slot) (nL : Nat) (L : List Value) : Prop := ls.size = nL ∧ lv_wf ls ∧ ∀ (i : Nat) (v : Value), L[i]? = some v → v ≠ .null → ls[i]? = some (.val (aV X ad v))
def aEl (X : aX) (ad : Nat → Nat) (L : List Value) : List (Nat × Value) := (List.range L.length).filterMap (fun j => (L[j]?).bind (fun v => if v = .null then none else some (j, aV X ad v)))
theorem aEl_mem {X : aX} {ad : Nat → Nat} {L : List Value} {q : Nat × Value} : q ∈ aEl X ad L ↔ ∃ v, L[q.1]? = some v ∧ v ≠ .null ∧ q.2 = aV X ad v := by
  obtain ⟨i, w⟩ := q
  constructor
  · intro h
    obtain ⟨j, -, hj⟩ := List.mem_filterMap.mp h
    cases hv : L[j]? with
    | none => rw [hv] at hj; cases hj
    | some v =>
      rw [hv] at hj
      by_cases hn : v = .null
      · simp [hn] at hj
      · simp [hn] at hj
        obtain ⟨rfl, rfl⟩ := hj
        exact ⟨v, hv, hn, rfl⟩
  · rintro ⟨v, hv, hn, hw⟩
    refine List.mem_filterMap.mpr ⟨i, List.mem_range.mpr (List.getElem?_eq_some_iff.mp hv).1, ?_⟩
    dsimp only at hv hw
    rw [hv, hw]
    simp [hn]
theorem aLv.has {X : aX} {ad : Nat → Nat} {ls : Array Slot} {nL : Nat} {L : List Value} (h : aLv X ad ls nL L) : lv_has ls nL (aEl X ad L) := by
  refine ⟨h.1, h.2.1, fun q hq => ?_⟩
  obtain ⟨v, h1, h2, h3⟩ := aEl_mem.mp hq
  rw [h3]
  exact h.2.2 q.1 v h1 h2
theorem aLv.of {X : aX} {ad : Nat → Nat} {ls : Array Slot} {nL : Nat} {L : List Value} {l : List (Nat × Value)} (h : lv_has ls nL l) (hm : ∀ (i : Nat) (v : Value), L[i]? = some v → v ≠ .null → (i, aV X ad v) ∈ l) : aLv X ad ls nL L :=
  ⟨h.1, h.2.1, fun i v h1 h2 => h.2.2 _ (hm i v h1 h2)⟩
/-- below place i no long or double reaches into i -/
def aLow (L : List Value) (i : Nat) : Bool := match i with
  | 0 => true
  | j + 1 => match L[j]? with
    | some w => w.category == 1
    | none => true
theorem aLv.put1 {X : aX} {ad : Nat → Nat} {ls : Array Slot} {nL i : Nat} {L : List Value} {v : Value} (hw : aLow L i = true) (h : lv_has ls nL ((i, aV X ad v) :: (aEl X ad L).filter (fun q => !(q.1 == i) && !(q.1 + 1 == i && q.2.category == 2)))) : aLv X ad ls nL (L.set i v) := by
  refine aLv.of h fun j w hj hn => ?_
  rw [List.getElem?_set] at hj
  by_cases hij : i = j
  · subst hij
    rw [if_pos rfl] at hj
    by_cases hl : i < L.length
    · rw [if_pos hl] at hj
      cases hj
      exact List.mem_cons_self
    · rw [if_neg hl] at hj; cases hj
  · rw [if_neg hij] at hj
    refine List.mem_cons_of_mem _ (List.mem_filter.mpr ⟨aEl_mem.mpr ⟨w, hj, hn, rfl⟩, ?_⟩)
    simp only [Bool.and_eq_true, Bool.not_eq_true', beq_eq_false_iff_ne, ne_eq, Bool.and_eq_false_iff]
    refine ⟨fun q => hij q.symm, ?_⟩
    by_cases hji : j + 1 = i
    · right
      subst hji
      simp only [aLow, hj] at hw
      rw [aV_cat]
      intro q
      rw [q] at hw
      cases hw
    · exact Or.inl hji
theorem aLv.put2 {X : aX} {ad : Nat → Nat} {ls : Array Slot} {nL i : Nat} {L : List Value} {v : Value} (hw : aLow L i = true) (h : lv_has ls nL ((i, aV X ad v) :: (aEl X ad L).filter (fun q => !(q.1 == i) && (!(q.1 == i + 1) && !(q.1 + 1 == i && q.2.category == 2))))) : aLv X ad ls nL ((L.set i v).set (i + 1) .null) := by
  refine aLv.of h fun j w hj hn => ?_
  rw [List.getElem?_set] at hj
  by_cases hj1 : i + 1 = j
  · subst hj1
    rw [if_pos rfl] at hj
    by_cases hl : i + 1 < (L.set i v).length
    · rw [if_pos hl] at hj
      exact absurd (Option.some.inj hj).symm hn
    · rw [if_neg hl] at hj; cases hj
  · rw [if_neg hj1, List.getElem?_set] at hj
    by_cases hij : i = j
    · subst hij
      rw [if_pos rfl] at hj
      by_cases hl : i < L.length
      · rw [if_pos hl] at hj
        cases hj
        exact List.mem_cons_self
      · rw [if_neg hl] at hj; cases hj
    · rw [if_neg hij] at hj
      refine List.mem_cons_of_mem _ (List.mem_filter.mpr ⟨aEl_mem.mpr ⟨w, hj, hn, rfl⟩, ?_⟩)
      simp only [Bool.and_eq_true, Bool.not_eq_true', beq_eq_false_iff_ne, ne_eq, Bool.and_eq_false_iff]
      refine ⟨fun q => hij q.symm, fun q => hj1 q.symm, ?_⟩
      by_cases hji : j + 1 = i
      · right
        subst hji
        simp only [aLow, hj] at hw
        rw [aV_cat]
        intro q
        rw [q] at hw
        cases hw
      · exact Or.inl hji
/-- the arguments at the entry, by their places -/
def aArg : List Value → List Value
  | [] => []
  | v :: l => if v.category = 2 then v :: .null :: aArg l else v :: aArg l
theorem aArg_mem (X : aX) (ad : Nat → Nat) : ∀ (vs : List Value) (k i : Nat) (v : Value), (aArg vs)[i]? = some v → v ≠ .null → (k + i, aV X ad v) ∈ lv_args k (vs.map (aV X ad))
  | [], k, i, v, h, _ => by simp [aArg] at h
  | u :: vs, k, i, v, h, hn => by
    simp only [List.map_cons, lv_args, aV_cat]
    by_cases hc : u.category = 2
    · simp only [aArg, if_pos hc] at h ⊢
      match i, h with
      | 0, h =>
        cases h
        exact List.mem_cons_self
      | 1, h => exact absurd (Option.some.inj h).symm hn
      | i + 2, h =>
        have := aArg_mem X ad vs (k + 2) i v h hn
        rw [show k + 2 + i = k + (i + 2) by omega] at this
        exact List.mem_cons_of_mem _ this
    · simp only [aArg, if_neg hc] at h ⊢
      match i, h with
      | 0, h =>
        cases h
        exact List.mem_cons_self
      | i + 1, h =>
        have := aArg_mem X ad vs (k + 1) i v h hn
        rw [show k + 1 + i = k + (i + 1) by omega] at this
        exact List.mem_cons_of_mem _ this
theorem aArg_len (X : aX) (ad : Nat → Nat) : ∀ (vs : List Value), (lg_sl (vs.map (aV X ad))).length = (aArg vs).length
  | [] => rfl
  | u :: vs => by
    have ih := aArg_len X ad vs
    simp only [lg_sl, List.map_cons, List.flatMap_cons, List.length_append, aV_cat] at ih ⊢
    by_cases hc : u.category = 2
    · simp only [aArg, if_pos hc, List.length_cons, List.length_nil]
      rw [ih]; omega
    · simp only [aArg, if_neg hc, List.length_cons, List.length_nil]
      rw [ih]; omega
def aPad (vs : List Value) (n : Nat) : List Value := aArg vs ++ List.replicate (n - (aArg vs).length) .null
theorem aLv.entry (X : aX) (ad : Nat → Nat) (vs : List Value) {n : Nat} (hn : (aArg vs).length ≤ n) : aLv X ad (lg_sl (vs.map (aV X ad)) ++ List.replicate (n - (lg_sl (vs.map (aV X ad))).length) Slot.unset).toArray n (aPad vs n) := by
  refine aLv.of (lv_entry _ (by rw [aArg_len]; exact hn)) fun i v hi hv => ?_
  unfold aPad at hi
  by_cases hl : i < (aArg vs).length
  · rw [List.getElem?_append_left hl] at hi
    have := aArg_mem X ad vs 0 i v hi hv
    rwa [Nat.zero_add] at this
  · rw [List.getElem?_append_right (by omega)] at hi
    obtain ⟨h1, h2⟩ := List.getElem?_eq_some_iff.mp hi
    rw [List.getElem_replicate] at h2
    exact absurd h2.symm hv
