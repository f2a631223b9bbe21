/-! written by wip/whole/pp.py out of wip/whole/src/41.trk.lean -/

/-! ===== the tracker: the class's list is sorted, the reference's is not ===== -/
abbrev tN : Type := Int32 × Int64 × Int64
abbrev tE (σ : tT) : Nat → tN := fun i => (σ.1 i, σ.2.1 i, σ.2.2 i)
abbrev kL (k : kT) : List tN := gL (tE k.1) k.2 0
def ahd (a b : tN) : Prop := b.2.1.toInt < a.2.1.toInt ∨ (a.2.1.toInt = b.2.1.toInt ∧ a.1.toInt < b.1.toInt)
def lss (a b : tN) : Prop := a.2.1.toInt < b.2.1.toInt ∨ (a.2.1.toInt = b.2.1.toInt ∧ a.1.toInt < b.1.toInt)
theorem ahd_tr {a b c : tN} (h1 : ahd a b) (h2 : ahd b c) : ahd a c := by unfold ahd at *; omega
theorem ahd_as {a b : tN} (h1 : ahd a b) (h2 : ahd b a) : False := by unfold ahd at *; omega
theorem ahd_irr {a : tN} (h : ahd a a) : False := by unfold ahd at *; omega
theorem i32_ne {a b : Int32} (h : a ≠ b) : a.toInt ≠ b.toInt := fun z => h (Int32.toInt_inj.mp z)
theorem ahd_tot {a b : tN} (h : a.1 ≠ b.1) : ahd a b ∨ ahd b a := by
  have := i32_ne h
  unfold ahd; omega
theorem lss_tot {a b : tN} (h : a.1 ≠ b.1) : lss a b ∨ lss b a := by
  have := i32_ne h
  unfold lss; omega
theorem tLb_iff {tk : Nat → Int32} {tc te : Nat → Int64} {a b : Nat} : tLb tk tc a b = true ↔ ahd (tE (tk, tc, te) a) (tE (tk, tc, te) b) := by
  simp only [tLb, Bool.or_eq_true, Bool.and_eq_true, decide_eq_true_eq, ahd, Int64.lt_iff_toInt_lt, Int32.le_iff_toInt_le, ← Int64.toInt_inj]
  omega
theorem gL_pw {α : Type} {e : Nat → α} {R : α → α → Prop} : ∀ (k j : Nat), (gL e k j).Pairwise R ↔ ∀ a b, j ≤ a → a < b → b < j + k → R (e a) (e b)
  | 0, j => ⟨fun _ a b h1 h2 h3 => by omega, fun _ => List.Pairwise.nil⟩
  | k + 1, j => by
    show (e j :: gL e k (j + 1)).Pairwise R ↔ _
    rw [List.pairwise_cons, gL_pw k (j + 1)]
    constructor
    · rintro ⟨h1, h2⟩ a b ha hab hb
      rcases Nat.lt_or_ge j a with q | q
      · exact h2 a b (by omega) hab (by omega)
      · obtain rfl : a = j := by omega
        exact h1 _ ((gL_mem _ _).mpr ⟨b, by omega, by omega, rfl⟩)
    · intro h
      refine ⟨fun x hx => ?_, fun a b h1 h2 h3 => h a b (by omega) h2 (by omega)⟩
      obtain ⟨i, h1, h2, rfl⟩ := (gL_mem _ _).mp hx
      exact h j i (Nat.le_refl _) (by omega) (by omega)
theorem tE_sw {σ : tT} {a b j : Nat} (h : a ≠ b) : tE (tSw σ a b) j = if j = b then tE σ a else if j = a then tE σ b else tE σ j := by
  by_cases h1 : j = b
  · subst h1; simp [tE, tSw, upd, vp_updL]
  · by_cases h2 : j = a
    · subst h2; simp [tE, tSw, upd, vp_updL, h1]
    · simp [tE, tSw, upd, vp_updL, h1, h2]
theorem gL_two {α : Type} {e : Nat → α} {m i : Nat} (h : i + 1 < m) : gL e m 0 = gL e i 0 ++ e i :: e (i + 1) :: gL e (m - i - 2) (i + 2) := by
  have := gL_app (e := e) i (m - i) 0
  rw [show i + (m - i) = m by omega, Nat.zero_add] at this
  rw [this, show m - i = (m - i - 2) + 1 + 1 by omega]
  rfl
theorem sw_perm {σ : tT} {m i : Nat} (h : i + 1 < m) : (gL (tE (tSw σ (i + 1) i)) m 0).Perm (gL (tE σ) m 0) := by
  rw [gL_two h, gL_two h]
  rw [gL_congr (e := tE (tSw σ (i + 1) i)) (e' := tE σ) i 0 (fun j _ hj => by rw [tE_sw (by omega), if_neg (by omega), if_neg (by omega)]), gL_congr (e := tE (tSw σ (i + 1) i)) (e' := tE σ) (m - i - 2) (i + 2) (fun j hj _ => by rw [tE_sw (by omega), if_neg (by omega), if_neg (by omega)])]
  rw [tE_sw (j := i) (by omega), if_pos rfl, tE_sw (j := i + 1) (by omega), if_neg (by omega), if_pos rfl]
  exact List.Perm.append_left _ (List.Perm.swap _ _ _)
theorem tMv_ok {m : Nat} : ∀ (i : Nat) (σ : tT), i < m → (∀ a b, a < b → b < m → a ≠ i → b ≠ i → ahd (tE σ a) (tE σ b)) → (∀ b, i < b → b < m → ahd (tE σ i) (tE σ b)) → (∀ a, a < m → a ≠ i → (tE σ a).1 ≠ (tE σ i).1) → (∀ a b, a < b → b < m → ahd (tE (tMv i σ) a) (tE (tMv i σ) b)) ∧ (gL (tE (tMv i σ)) m 0).Perm (gL (tE σ) m 0)
  | 0, σ, hi, h1, h2, _ => by
    refine ⟨fun a b hab hb => ?_, List.Perm.refl _⟩
    rcases Nat.eq_zero_or_pos a with q | q
    · subst q; exact h2 b hab hb
    · exact h1 a b hab hb (by omega) (by omega)
  | i + 1, σ, hi, h1, h2, h3 => by
    unfold tMv
    by_cases hc : tLb σ.1 σ.2.1 (i + 1) i = true
    · rw [if_pos hc]
      have hah : ahd (tE σ (i + 1)) (tE σ i) := (tLb_iff (te := σ.2.2)).mp hc
      have hne : i + 1 ≠ i := by omega
      have hE : ∀ j, tE (tSw σ (i + 1) i) j = if j = i then tE σ (i + 1) else if j = i + 1 then tE σ i else tE σ j := fun j => tE_sw hne
      have := tMv_ok (m := m) i (tSw σ (i + 1) i) (by omega) (fun a b hab hb ha hbi => ?_) (fun b hib hb => ?_) (fun a ha hai => ?_)
      · exact ⟨this.1, this.2.trans (sw_perm hi)⟩
      · rw [hE a, hE b, if_neg ha, if_neg hbi]
        by_cases qa : a = i + 1
        · rw [if_pos qa, if_neg (by omega)]
          exact h1 i b (by omega) hb (by omega) (by omega)
        · rw [if_neg qa]
          by_cases qb : b = i + 1
          · rw [if_pos qb]
            exact h1 a i (by omega) (by omega) qa (by omega)
          · rw [if_neg qb]
            exact h1 a b hab hb qa qb
      · rw [hE i, hE b, if_pos rfl, if_neg (by omega)]
        by_cases qb : b = i + 1
        · rw [if_pos qb]; exact hah
        · rw [if_neg qb]; exact h2 b (by omega) hb
      · rw [hE a, hE i, if_pos rfl, if_neg hai]
        by_cases qa : a = i + 1
        · rw [if_pos qa]; exact h3 i (by omega) (by omega)
        · rw [if_neg qa]; exact h3 a ha qa
    · rw [if_neg hc]
      have hnah : ¬ ahd (tE σ (i + 1)) (tE σ i) := fun z => hc ((tLb_iff (te := σ.2.2)).mpr z)
      have hii : ahd (tE σ i) (tE σ (i + 1)) := (ahd_tot (h3 i (by omega) (by omega))).resolve_right hnah
      refine ⟨fun a b hab hb => ?_, List.Perm.refl _⟩
      by_cases qa : a = i + 1
      · subst qa; exact h2 b hab hb
      · by_cases qb : b = i + 1
        · subst qb
          rcases Nat.lt_or_ge a i with q | q
          · exact ahd_tr (h1 a i q (by omega) qa (by omega)) hii
          · obtain rfl : a = i := by omega
            exact hii
        · exact h1 a b hab hb qa qb
def rK (B : Int) (k km : kT) : Prop := (kL k).Perm (kL km) ∧ (∀ a b, a < b → b < k.2 → ahd (tE k.1 a) (tE k.1 b)) ∧ (∀ a b, a < k.2 → b < k.2 → a ≠ b → k.1.1 a ≠ k.1.1 b) ∧ k.2 ≤ 8 ∧ ∀ a, a < k.2 → 0 ≤ (k.1.2.1 a).toInt ∧ (k.1.2.1 a).toInt ≤ B
section RK
variable {B : Int} {k km : kT}
theorem rK.len (h : rK B k km) : k.2 = km.2 := by
  have := h.1.length_eq
  rw [gL_len, gL_len] at this
  exact this
theorem rK.to (h : rK B k km) {a : Nat} (ha : a < k.2) : ∃ j, j < km.2 ∧ tE km.1 j = tE k.1 a := by
  have : tE k.1 a ∈ kL km := h.1.mem_iff.mp ((gL_mem _ _).mpr ⟨a, Nat.zero_le _, by omega, rfl⟩)
  obtain ⟨j, -, h2, h3⟩ := (gL_mem _ _).mp this
  exact ⟨j, by omega, h3⟩
theorem rK.fro (h : rK B k km) {j : Nat} (hj : j < km.2) : ∃ a, a < k.2 ∧ tE k.1 a = tE km.1 j := by
  have : tE km.1 j ∈ kL k := h.1.mem_iff.mpr ((gL_mem _ _).mpr ⟨j, Nat.zero_le _, by omega, rfl⟩)
  obtain ⟨a, -, h2, h3⟩ := (gL_mem _ _).mp this
  exact ⟨a, by omega, h3⟩
theorem rK.keys' (h : rK B k km) {i j : Nat} (hi : i < km.2) (hj : j < km.2) (hij : i ≠ j) : km.1.1 i ≠ km.1.1 j := by
  have h1 : (kL k).Pairwise (fun a b => a.1 ≠ b.1) := (gL_pw _ _).mpr (fun a b _ hab hb => h.2.2.1 a b (by omega) (by omega) (by omega))
  have h2 : (kL km).Pairwise (fun a b => a.1 ≠ b.1) := (h.1.pairwise_iff (fun {_ _} z => fun y => z y.symm)).mp h1
  have h3 := (gL_pw _ _).mp h2
  rcases Nat.lt_or_ge i j with q | q
  · exact h3 i j (Nat.zero_le _) q (by omega)
  · exact fun z => h3 j i (Nat.zero_le _) (by omega) (by omega) z.symm
theorem rK.weak (h : rK B k km) {B' : Int} (hb : B ≤ B') : rK B' k km :=
  ⟨h.1, h.2.1, h.2.2.1, h.2.2.2.1, fun a ha => ⟨(h.2.2.2.2 a ha).1, Int.le_trans (h.2.2.2.2 a ha).2 hb⟩⟩
theorem cN_thr {P : Nat → Bool} {p : Nat} : ∀ (m : Nat), (∀ a, a < m → P a = decide (a < p)) → p ≤ m → cN P m = p := by
  intro m h hp
  have : ∀ n, n ≤ m → cN P n = min n p := by
    intro n
    induction n with
    | zero => intro _; show 0 = min 0 p; omega
    | succ n ih =>
      intro hn
      show cN P n + (if P n then 1 else 0) = _
      rw [ih (by omega), h n (by omega)]
      by_cases q : n < p
      · rw [decide_eq_true q]; simp only [if_true]; omega
      · rw [decide_eq_false q]; simp only [Bool.false_eq_true, if_false]; omega
  rw [this m (Nat.le_refl _)]; omega
theorem rK.ah (h : rK B k km) {p i : Nat} (hp : p < k.2) (he : tE km.1 i = tE k.1 p) : mAh km i = nI p := by
  have hdec : ∀ x : tN, ∃ b : Bool, (b = true ↔ ahd x (tE k.1 p)) := fun x => ⟨decide ((tE k.1 p).2.1.toInt < x.2.1.toInt ∨ (x.2.1.toInt = (tE k.1 p).2.1.toInt ∧ x.1.toInt < (tE k.1 p).1.toInt)), decide_eq_true_iff⟩
  have hpf : ∃ f : tN → Bool, ∀ x, (f x = true ↔ ahd x (tE k.1 p)) := ⟨fun x => decide ((tE k.1 p).2.1.toInt < x.2.1.toInt ∨ (x.2.1.toInt = (tE k.1 p).2.1.toInt ∧ x.1.toInt < (tE k.1 p).1.toInt)), fun x => decide_eq_true_iff⟩
  obtain ⟨f, hf⟩ := hpf
  unfold mAh
  rw [aLp_cN0]
  congr 1
  have e1 : ∀ j, f (tE km.1 j) = tLb km.1.1 km.1.2.1 j i := by
    intro j
    have h1 := tLb_iff (tk := km.1.1) (tc := km.1.2.1) (te := km.1.2.2) (a := j) (b := i)
    have h2 := hf (tE km.1 j)
    rw [← he] at h2
    rw [Bool.eq_iff_iff]
    exact h2.trans h1.symm
  rw [gL_cN e1, ← h.1.countP_eq, ← gL_cN (P := fun a => f (tE k.1 a)) (fun _ => rfl)]
  refine cN_thr _ (fun a ha => ?_) (by omega)
  rw [Bool.eq_iff_iff, hf, decide_eq_true_iff]
  constructor
  · intro z
    rcases Nat.lt_or_ge a p with q | q
    · exact q
    · rcases Nat.lt_or_ge p a with q2 | q2
      · exact (ahd_as z (h.2.1 p a q2 ha)).elim
      · obtain rfl : a = p := by omega
        exact (ahd_irr z).elim
  · intro q
    exact h.2.1 a p q hp
theorem rK.listed (h : rK B k km) {p : Nat} (hp : p < k.2) : ∃ i, i < km.2 ∧ mLi km (nI p) = some i ∧ tE km.1 i = tE k.1 p := by
  have h8 := h.2.2.2.1
  obtain ⟨j, hj, hje⟩ := h.to hp
  obtain ⟨i, hi⟩ := aFo_ex (P := fun i => decide (mAh km i = nI p)) (k := km.2) (j := 0) ⟨j, Nat.zero_le _, by omega, decide_eq_true (h.ah hp hje)⟩
  obtain ⟨-, h2, h3⟩ := aFo_some hi
  refine ⟨i, by omega, hi, ?_⟩
  obtain ⟨a, ha, hae⟩ := h.fro (show i < km.2 by omega)
  have h4 : mAh km i = nI p := of_decide_eq_true h3
  rw [h.ah ha hae.symm] at h4
  have := (nI_eq (by omega) (by omega)).mp h4
  rw [← hae, this]
theorem perm_repl {A C A' C' : List tN} {x y : tN} (h : (A ++ x :: C).Perm (A' ++ x :: C')) : (A ++ y :: C).Perm (A' ++ y :: C') := by
  have h1 : (A ++ C).Perm (A' ++ C') := ((List.perm_middle.symm.trans h).trans List.perm_middle).cons_inv
  exact (List.perm_middle.trans (h1.cons y)).trans List.perm_middle.symm
/-- entry i counts on, in both lists -/
theorem rK.put (h : rK B k km) {i j : Nat} {σ σ' : tT} {y : tN} {n : Int} (hi : i < k.2) (hj : j < km.2) (he : tE km.1 j = tE k.1 i) (hn1 : 1 ≤ n) (hn2 : n ≤ 1000000)
    (hσ : ∀ a, a ≠ i → tE σ a = tE k.1 a) (hσi : tE σ i = y) (hσ' : ∀ a, a ≠ j → tE σ' a = tE km.1 a) (hσj : tE σ' j = y) (hy : y.2.1.toInt = (k.1.2.1 i).toInt + n) (hk : ∀ a, a < k.2 → a ≠ i → k.1.1 a ≠ y.1) (h2 : ∀ b, i < b → b < k.2 → (k.1.2.1 b).toInt ≤ (k.1.2.1 i).toInt) : rK (B + 1000000) (tMv i σ, k.2) (σ', km.2) := by
  have hlt : ∀ b, i < b → b < k.2 → ahd y (tE k.1 b) := fun b hb1 hb2 => Or.inl (by rw [hy]; have := h2 b hb1 hb2; show (k.1.2.1 b).toInt < _; omega)
  obtain ⟨g1, g2⟩ := tMv_ok (m := k.2) i σ hi (fun a b hab hb ha hbi => by rw [hσ a ha, hσ b hbi]; exact h.2.1 a b hab hb) (fun b hb1 hb2 => by rw [hσi, hσ b (by omega)]; exact hlt b hb1 hb2) (fun a ha hai => by rw [hσi, hσ a hai]; exact hk a ha hai)
  have hperm : (gL (tE σ) k.2 0).Perm (gL (tE σ') km.2 0) := by
    have hp := h.1
    show (gL (tE σ) k.2 0).Perm _
    rw [gL_put (e := tE k.1) (e' := tE σ) hi (fun a _ ha => hσ a ha), gL_put (e := tE km.1) (e' := tE σ') hj (fun a _ ha => hσ' a ha), hσi, hσj]
    have hp' : (gL (tE k.1) k.2 0).Perm (gL (tE km.1) km.2 0) := hp
    rw [gL_at hi, gL_at hj, he] at hp'
    exact perm_repl hp'
  have hfro : ∀ a, a < k.2 → ∃ b, b < k.2 ∧ tE σ b = tE (tMv i σ) a := by
    intro a ha
    have : tE (tMv i σ) a ∈ gL (tE σ) k.2 0 := g2.mem_iff.mp ((gL_mem _ _).mpr ⟨a, Nat.zero_le _, by omega, rfl⟩)
    obtain ⟨b, -, hb2, hb3⟩ := (gL_mem _ _).mp this
    exact ⟨b, by omega, hb3⟩
  have hkeys : (gL (tE σ) k.2 0).Pairwise (fun a b => a.1 ≠ b.1) := by
    refine (gL_pw _ _).mpr (fun a b _ hab hb => ?_)
    by_cases qa : a = i
    · rw [qa, hσi, hσ b (by omega)]
      exact fun z => hk b (by omega) (by omega) z.symm
    · by_cases qb : b = i
      · rw [qb, hσi, hσ a qa]
        exact hk a (by omega) qa
      · rw [hσ a qa, hσ b qb]
        exact h.2.2.1 a b (by omega) (by omega) (by omega)
  have hkeys2 : (gL (tE (tMv i σ)) k.2 0).Pairwise (fun a b => a.1 ≠ b.1) := (g2.pairwise_iff (fun {_ _} z => fun w => z w.symm)).mpr hkeys
  have hk3 := (gL_pw _ _).mp hkeys2
  refine ⟨g2.trans hperm, g1, fun a b ha hb hab => ?_, h.2.2.2.1, fun a ha => ?_⟩
  · rcases Nat.lt_or_ge a b with q | q
    · exact hk3 a b (Nat.zero_le _) q (by rw [Nat.zero_add]; exact hb)
    · exact fun z => hk3 b a (Nat.zero_le _) (by omega) (by rw [Nat.zero_add]; exact ha) z.symm
  · obtain ⟨b, hb, hbe⟩ := hfro a ha
    have e : (tMv i σ).2.1 a = (tE σ b).2.1 := by rw [hbe]
    show 0 ≤ ((tMv i σ).2.1 a).toInt ∧ ((tMv i σ).2.1 a).toInt ≤ _
    rw [e]
    by_cases qb : b = i
    · rw [qb, hσi, hy]
      have := h.2.2.2.2 i hi
      omega
    · rw [hσ b qb]
      have := h.2.2.2.2 b hb
      show 0 ≤ (k.1.2.1 b).toInt ∧ (k.1.2.1 b).toInt ≤ B + 1000000
      omega
/-- a new entry, in both lists -/
theorem rK.app (h : rK B k km) {σ σ' : tT} {y : tN} {n : Int} (h8 : k.2 < 8) (hB : 0 ≤ B) (hn1 : 1 ≤ n) (hn2 : n ≤ 1000000)
    (hσ : ∀ a, a ≠ k.2 → tE σ a = tE k.1 a) (hσi : tE σ k.2 = y) (hσ' : ∀ a, a ≠ km.2 → tE σ' a = tE km.1 a) (hσj : tE σ' km.2 = y) (hy : y.2.1.toInt = n) (hk : ∀ a, a < k.2 → k.1.1 a ≠ y.1) : rK (B + 1000000) (tMv k.2 σ, k.2 + 1) (σ', km.2 + 1) := by
  obtain ⟨g1, g2⟩ := tMv_ok (m := k.2 + 1) k.2 σ (by omega) (fun a b hab hb ha hbi => by rw [hσ a ha, hσ b hbi]; exact h.2.1 a b hab (by omega)) (fun b hb1 hb2 => by omega) (fun a ha hai => by rw [hσi, hσ a hai]; exact hk a (by omega))
  have hperm : (gL (tE σ) (k.2 + 1) 0).Perm (gL (tE σ') (km.2 + 1) 0) := by
    rw [gL_snoc, gL_snoc, hσi, hσj, gL_congr (e := tE σ) (e' := tE k.1) k.2 0 (fun a _ ha => hσ a (by omega)), gL_congr (e := tE σ') (e' := tE km.1) km.2 0 (fun a _ ha => hσ' a (by omega))]
    exact List.Perm.append_right _ h.1
  have hfro : ∀ a, a < k.2 + 1 → ∃ b, b < k.2 + 1 ∧ tE σ b = tE (tMv k.2 σ) a := by
    intro a ha
    have : tE (tMv k.2 σ) a ∈ gL (tE σ) (k.2 + 1) 0 := g2.mem_iff.mp ((gL_mem _ _).mpr ⟨a, Nat.zero_le _, by omega, rfl⟩)
    obtain ⟨b, -, hb2, hb3⟩ := (gL_mem _ _).mp this
    exact ⟨b, by omega, hb3⟩
  have hkeys : (gL (tE σ) (k.2 + 1) 0).Pairwise (fun a b => a.1 ≠ b.1) := by
    refine (gL_pw _ _).mpr (fun a b _ hab hb => ?_)
    rw [hσ a (by omega)]
    by_cases qb : b = k.2
    · rw [qb, hσi]
      exact hk a (by omega)
    · rw [hσ b qb]
      exact h.2.2.1 a b (by omega) (by omega) (by omega)
  have hkeys2 : (gL (tE (tMv k.2 σ)) (k.2 + 1) 0).Pairwise (fun a b => a.1 ≠ b.1) := (g2.pairwise_iff (fun {_ _} z => fun w => z w.symm)).mpr hkeys
  have hk3 := (gL_pw _ _).mp hkeys2
  refine ⟨g2.trans hperm, g1, fun a b ha hb hab => ?_, by show k.2 + 1 ≤ 8; omega, fun a ha => ?_⟩
  · rcases Nat.lt_or_ge a b with q | q
    · exact hk3 a b (Nat.zero_le _) q (by rw [Nat.zero_add]; exact hb)
    · exact fun z => hk3 b a (Nat.zero_le _) (by omega) (by rw [Nat.zero_add]; exact ha) z.symm
  · obtain ⟨b, hb, hbe⟩ := hfro a ha
    have e : (tMv k.2 σ).2.1 a = (tE σ b).2.1 := by rw [hbe]
    show 0 ≤ ((tMv k.2 σ).2.1 a).toInt ∧ ((tMv k.2 σ).2.1 a).toInt ≤ _
    rw [e]
    by_cases qb : b = k.2
    · rw [qb, hσi, hy]
      omega
    · rw [hσ b qb]
      have := h.2.2.2.2 b (by omega)
      show 0 ≤ (k.1.2.1 b).toInt ∧ (k.1.2.1 b).toInt ≤ B + 1000000
      omega
end RK
