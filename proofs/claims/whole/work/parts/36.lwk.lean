/-! written by wip/whole/pp.py out of wip/whole/src/36.lwk.lean -/

/-! ===== the law's heap: the class's cells, the reference's, two arrays ===== -/
def aLw (hx hm : List aCell) (oc dc : aCell) : List aCell := hx ++ (hm.map (aRc (fun i => 55 + i)) ++ [oc, dc])
def aLk (hx hm : List aCell) : Prop := (hx.length = 55 ∧ hx.all (aCo (aBe 55)) = true) ∧ hm.length = 19 ∧ hm.all (aCo (aBe 19)) = true
section ALW
variable {hx hm hx' hm' : List aCell} {oc dc : aCell}
theorem aLw_len (b : aLk hx hm) : (aLw hx hm oc dc).length = 76 := by
  unfold aLw
  rw [List.length_append, List.length_append, List.length_map, b.1.1, b.2.1]
  rfl
theorem aLw_lo (b : aLk hx hm) {j : Nat} (hj : j < 55) : (aLw hx hm oc dc)[j]? = hx[j]? := List.getElem?_append_left (by rw [b.1.1]; exact hj)
theorem aLw_mid (b : aLk hx hm) {j : Nat} (h1 : 55 ≤ j) (h2 : j < 74) : (aLw hx hm oc dc)[j]? = (hm[j - 55]?).map (aRc (fun i => 55 + i)) := by
  unfold aLw
  rw [List.getElem?_append_right (by rw [b.1.1]; exact h1), b.1.1, List.getElem?_append_left (by rw [List.length_map, b.2.1]; omega), List.getElem?_map]
theorem aLw_74 (b : aLk hx hm) : (aLw hx hm oc dc)[74]? = some oc := by
  unfold aLw
  rw [List.getElem?_append_right (by rw [b.1.1]; decide), b.1.1, List.getElem?_append_right (by rw [List.length_map, b.2.1]; decide), List.length_map, b.2.1]
  rfl
theorem aLw_75 (b : aLk hx hm) : (aLw hx hm oc dc)[75]? = some dc := by
  unfold aLw
  rw [List.getElem?_append_right (by rw [b.1.1]; decide), b.1.1, List.getElem?_append_right (by rw [List.length_map, b.2.1]; decide), List.length_map, b.2.1]
  rfl
theorem aLw_hi (b : aLk hx hm) {j : Nat} (h : 76 ≤ j) : (aLw hx hm oc dc)[j]? = none := List.getElem?_eq_none (by rw [aLw_len b]; exact h)
/-- every cell, by its place -/
theorem aLw_ext (b : aLk hx hm) {l : List aCell} (h1 : ∀ j, j < 55 → l[j]? = hx[j]?) (h2 : ∀ j, 55 ≤ j → j < 74 → l[j]? = (hm[j - 55]?).map (aRc (fun i => 55 + i))) (h3 : l[74]? = some oc) (h4 : l[75]? = some dc) (h5 : ∀ j, 76 ≤ j → l[j]? = none) : l = aLw hx hm oc dc := by
  apply List.ext_getElem?
  intro j
  rcases Nat.lt_or_ge j 55 with q | q
  · rw [aLw_lo b q, h1 j q]
  · rcases Nat.lt_or_ge j 74 with q2 | q2
    · rw [aLw_mid b q q2, h2 j q q2]
    · rcases Nat.lt_or_ge j 75 with q3 | q3
      · obtain rfl : j = 74 := by omega
        rw [aLw_74 b, h3]
      · rcases Nat.lt_or_ge j 76 with q4 | q4
        · obtain rfl : j = 75 := by omega
          rw [aLw_75 b, h4]
        · rw [aLw_hi b q4, h5 j q4]
end ALW
abbrev isA : List Nat := [0, 1, 2, 3, 4, 5, 6, 7, 8, 9, 10, 11, 12, 13, 14, 15, 16, 17, 18, 19, 20, 21, 22, 23, 24, 25, 26, 27, 28, 29, 30, 31, 32, 33, 34, 35, 36, 37, 38, 39, 40, 41, 42, 43, 44, 45, 46, 47, 48, 49, 50, 51, 52, 53, 54, 74]
abbrev isD : List Nat := [0, 1, 2, 3, 4, 5, 6, 7, 8, 9, 10, 11, 12, 13, 14, 15, 16, 17, 18, 19, 20, 21, 22, 23, 24, 25, 26, 27, 28, 29, 30, 31, 32, 33, 34, 35, 36, 37, 38, 39, 40, 41, 42, 43, 44, 45, 46, 47, 48, 49, 50, 51, 52, 53, 54, 75]
abbrev isM : List Nat := [55, 56, 57, 58, 59, 60, 61, 62, 63, 64, 65, 66, 67, 68, 69, 70, 71, 72, 73]
theorem isA_1 : (∀ j, j < 55 → aIx isA j = some j) ∧ (∀ j, j < 74 → 55 ≤ j → aIx isA j = none) ∧ aIx isA 74 = some 55 ∧ aIx isA 75 = none ∧ (∀ t, t < 55 → aRi 76 isA t = t) ∧ (∀ j, j < 55 → isA[j]? = some j) := by decide +kernel
theorem isD_1 : (∀ j, j < 55 → aIx isD j = some j) ∧ (∀ j, j < 74 → 55 ≤ j → aIx isD j = none) ∧ aIx isD 75 = some 55 ∧ aIx isD 74 = none ∧ (∀ t, t < 55 → aRi 76 isD t = t) ∧ (∀ j, j < 55 → isD[j]? = some j) := by decide +kernel
theorem isM_1 : (∀ j, j < 55 → aIx isM j = none) ∧ (∀ j, j < 74 → 55 ≤ j → aIx isM j = some (j - 55)) ∧ aIx isM 75 = none ∧ aIx isM 74 = none ∧ (∀ t, t < 19 → aRi 76 isM t = 55 + t) ∧ (∀ j, j < 19 → isM[j]? = some (55 + j)) := by decide +kernel
theorem isC_1 : (∀ j, j < 55 → aIx is55 j = some j) ∧ (∀ j, j < 74 → 55 ≤ j → aIx is55 j = none) ∧ aIx is55 75 = none ∧ aIx is55 74 = none ∧ (∀ t, t < 55 → aRi 76 is55 t = t) ∧ (∀ j, j < 55 → is55[j]? = some j) := by decide +kernel
section ALC
variable {hx hm hx' hm' : List aCell} {o o' : Nat → Int64} {d d' : Nat → UInt64} {oc dc : aCell}
theorem aLw_selA (b : aLk hx hm) : aSel (aLw hx hm (aLa 1 o) dc) isA (hx ++ [aLa 1 o]) := by
  unfold aSel
  rw [aLw_len b]
  apply List.ext_getElem?
  intro j
  rw [List.getElem?_map, List.getElem?_map]
  rcases Nat.lt_or_ge j 55 with q | q
  · rw [isA_1.2.2.2.2.2 j q, List.getElem?_append_left (by rw [b.1.1]; exact q)]
    show some ((aLw hx hm (aLa 1 o) dc)[j]?) = _
    rw [aLw_lo b q]
    obtain ⟨e, he⟩ : ∃ e, hx[j]? = some e := ⟨_, List.getElem?_eq_getElem (by rw [b.1.1]; exact q)⟩
    rw [he]
    show some (some e) = some (some (aRc (aRi 76 isA) e))
    rw [be55 isA_1.2.2.2.2.1 (List.all_eq_true.mp b.1.2 e (List.mem_of_getElem? he))]
  · rcases Nat.lt_or_ge j 56 with q2 | q2
    · obtain rfl : j = 55 := by omega
      rw [List.getElem?_append_right (by rw [b.1.1]; decide), b.1.1]
      show some ((aLw hx hm (aLa 1 o) dc)[74]?) = some (some (aRc (aRi 76 isA) (aLa 1 o)))
      rw [aLw_74 b]
      rfl
    · rw [List.getElem?_eq_none (show isA.length ≤ j from q2), List.getElem?_eq_none (by rw [List.length_append, b.1.1]; exact q2)]
      rfl
theorem aLw_mgA (b : aLk hx hm) (b' : aLk hx' hm) : aMg (aLw hx hm oc dc) isA (hx' ++ [aLa 1 o']) = aLw hx' hm (aLa 1 o') dc := by
  have hle : isA.length ≤ (hx' ++ [aLa 1 o']).length := by rw [List.length_append, b'.1.1]; exact Nat.le_refl _
  refine aLw_ext b' (fun j hj => ?_) (fun j h1 h2 => ?_) ?_ ?_ (fun j hj => ?_)
  · rw [aMg_get hle, aLw_len b, if_pos (by omega), isA_1.1 j hj]
    dsimp only
    rw [List.getElem?_append_left (by rw [b'.1.1]; exact hj), hx_fix b'.1.2 isA_1.2.2.2.2.1]
  · rw [aMg_get hle, aLw_len b, if_pos (by omega), isA_1.2.1 j h2 h1]
    dsimp only
    rw [aLw_mid b h1 h2]
  · rw [aMg_get hle, aLw_len b, if_pos (by omega), isA_1.2.2.1]
    dsimp only
    rw [List.getElem?_append_right (by rw [b'.1.1]; decide), b'.1.1]
    rfl
  · rw [aMg_get hle, aLw_len b, if_pos (by omega), isA_1.2.2.2.1]
    dsimp only
    rw [aLw_75 b]
  · rw [aMg_get hle, aLw_len b, if_neg (by omega), List.getElem?_eq_none (by rw [List.length_append, b'.1.1]; show 55 + 1 ≤ 56 + (j - 76); omega)]
    rfl
theorem mid_ok {p : Nat → Bool} (b : aLk hx hm) (hp : ∀ r, r < 74 → 55 ≤ r → p r = true) {j : Nat} {e : aCell} (he : (hm[j]?).map (aRc (fun i => 55 + i)) = some e) : aCo p e = true := by
  cases h0 : hm[j]? with
  | none => rw [h0] at he; cases he
  | some e0 =>
    rw [h0] at he
    cases he
    refine aCo_mv (p := aBe 19) (fun i hi => hp _ ?_ ?_) (List.all_eq_true.mp b.2.2 e0 (List.mem_of_getElem? h0))
    · have := of_decide_eq_true hi; omega
    · omega
theorem aLw_rsA (b : aLk hx hm) (hd : ∀ p, aCo p dc = true) : aRs isA (aSb isA [0, 55] 76) 0 (aLw hx hm oc dc) = true := by
  refine aRs_of _ _ (fun j e he hix => ?_)
  rw [Nat.zero_add] at hix
  rcases Nat.lt_or_ge j 55 with q | q
  · rw [isA_1.1 j q] at hix; cases hix
  · rcases Nat.lt_or_ge j 74 with q2 | q2
    · rw [aLw_mid b q q2] at he
      exact mid_ok b (fun r h1 h2 => by unfold aSb; rw [isA_1.2.1 r h1 h2]; exact decide_eq_true (by omega)) he
    · rcases Nat.lt_or_ge j 75 with q3 | q3
      · obtain rfl : j = 74 := by omega
        rw [isA_1.2.2.1] at hix; cases hix
      · rcases Nat.lt_or_ge j 76 with q4 | q4
        · obtain rfl : j = 75 := by omega
          rw [aLw_75 b] at he; cases he
          exact hd _
        · rw [aLw_hi b q4] at he; cases he
theorem aLw_selD (b : aLk hx hm) : aSel (aLw hx hm oc (aDa 1 d)) isD (hx ++ [aDa 1 d]) := by
  unfold aSel
  rw [aLw_len b]
  apply List.ext_getElem?
  intro j
  rw [List.getElem?_map, List.getElem?_map]
  rcases Nat.lt_or_ge j 55 with q | q
  · rw [isD_1.2.2.2.2.2 j q, List.getElem?_append_left (by rw [b.1.1]; exact q)]
    show some ((aLw hx hm oc (aDa 1 d))[j]?) = _
    rw [aLw_lo b q]
    obtain ⟨e, he⟩ : ∃ e, hx[j]? = some e := ⟨_, List.getElem?_eq_getElem (by rw [b.1.1]; exact q)⟩
    rw [he]
    show some (some e) = some (some (aRc (aRi 76 isD) e))
    rw [be55 isD_1.2.2.2.2.1 (List.all_eq_true.mp b.1.2 e (List.mem_of_getElem? he))]
  · rcases Nat.lt_or_ge j 56 with q2 | q2
    · obtain rfl : j = 55 := by omega
      rw [List.getElem?_append_right (by rw [b.1.1]; decide), b.1.1]
      show some ((aLw hx hm oc (aDa 1 d))[75]?) = some (some (aRc (aRi 76 isD) (aDa 1 d)))
      rw [aLw_75 b]
      rfl
    · rw [List.getElem?_eq_none (show isD.length ≤ j from q2), List.getElem?_eq_none (by rw [List.length_append, b.1.1]; exact q2)]
      rfl
theorem aLw_mgD (b : aLk hx hm) (b' : aLk hx' hm) : aMg (aLw hx hm oc dc) isD (hx' ++ [aDa 1 d']) = aLw hx' hm oc (aDa 1 d') := by
  have hle : isD.length ≤ (hx' ++ [aDa 1 d']).length := by rw [List.length_append, b'.1.1]; exact Nat.le_refl _
  refine aLw_ext b' (fun j hj => ?_) (fun j h1 h2 => ?_) ?_ ?_ (fun j hj => ?_)
  · rw [aMg_get hle, aLw_len b, if_pos (by omega), isD_1.1 j hj]
    dsimp only
    rw [List.getElem?_append_left (by rw [b'.1.1]; exact hj), hx_fix b'.1.2 isD_1.2.2.2.2.1]
  · rw [aMg_get hle, aLw_len b, if_pos (by omega), isD_1.2.1 j h2 h1]
    dsimp only
    rw [aLw_mid b h1 h2]
  · rw [aMg_get hle, aLw_len b, if_pos (by omega), isD_1.2.2.2.1]
    dsimp only
    rw [aLw_74 b]
  · rw [aMg_get hle, aLw_len b, if_pos (by omega), isD_1.2.2.1]
    dsimp only
    rw [List.getElem?_append_right (by rw [b'.1.1]; decide), b'.1.1]
    rfl
  · rw [aMg_get hle, aLw_len b, if_neg (by omega), List.getElem?_eq_none (by rw [List.length_append, b'.1.1]; show 55 + 1 ≤ 56 + (j - 76); omega)]
    rfl
theorem aLw_rsD (b : aLk hx hm) (hd : ∀ p, aCo p oc = true) : aRs isD (aSb isD [0, 55] 76) 0 (aLw hx hm oc dc) = true := by
  refine aRs_of _ _ (fun j e he hix => ?_)
  rw [Nat.zero_add] at hix
  rcases Nat.lt_or_ge j 55 with q | q
  · rw [isD_1.1 j q] at hix; cases hix
  · rcases Nat.lt_or_ge j 74 with q2 | q2
    · rw [aLw_mid b q q2] at he
      exact mid_ok b (fun r h1 h2 => by unfold aSb; rw [isD_1.2.1 r h1 h2]; exact decide_eq_true (by omega)) he
    · rcases Nat.lt_or_ge j 75 with q3 | q3
      · obtain rfl : j = 74 := by omega
        rw [aLw_74 b] at he; cases he
        exact hd _
      · rcases Nat.lt_or_ge j 76 with q4 | q4
        · obtain rfl : j = 75 := by omega
          rw [isD_1.2.2.1] at hix; cases hix
        · rw [aLw_hi b q4] at he; cases he
theorem aLw_selM (b : aLk hx hm) : aSel (aLw hx hm oc dc) isM hm := by
  unfold aSel
  rw [aLw_len b]
  apply List.ext_getElem?
  intro j
  rw [List.getElem?_map, List.getElem?_map]
  rcases Nat.lt_or_ge j 19 with q | q
  · rw [isM_1.2.2.2.2.2 j q]
    show some ((aLw hx hm oc dc)[55 + j]?) = _
    rw [aLw_mid b (by omega) (by omega), Nat.add_sub_cancel_left]
    obtain ⟨e, he⟩ : ∃ e, hm[j]? = some e := ⟨_, List.getElem?_eq_getElem (by rw [b.2.1]; exact q)⟩
    rw [he]
    show some (some (aRc (fun i => 55 + i) e)) = some (some (aRc (aRi 76 isM) e))
    rw [aRc_congr (p := aBe 19) (fun i hi => (isM_1.2.2.2.2.1 i (of_decide_eq_true hi)).symm) (List.all_eq_true.mp b.2.2 e (List.mem_of_getElem? he))]
  · rw [List.getElem?_eq_none (show isM.length ≤ j from q), List.getElem?_eq_none (by rw [b.2.1]; exact q)]
    rfl
theorem aLw_mgM (b : aLk hx hm) (b' : aLk hx hm') : aMg (aLw hx hm oc dc) isM hm' = aLw hx hm' oc dc := by
  have hle : isM.length ≤ hm'.length := by rw [b'.2.1]; exact Nat.le_refl _
  refine aLw_ext b' (fun j hj => ?_) (fun j h1 h2 => ?_) ?_ ?_ (fun j hj => ?_)
  · rw [aMg_get hle, aLw_len b, if_pos (by omega), isM_1.1 j hj]
    dsimp only
    rw [aLw_lo b hj]
  · rw [aMg_get hle, aLw_len b, if_pos (by omega), isM_1.2.1 j h2 h1]
    dsimp only
    cases he : hm'[j - 55]? with
    | none => rfl
    | some e => exact congrArg some (aRc_congr (p := aBe 19) (fun i hi => isM_1.2.2.2.2.1 i (of_decide_eq_true hi)) (List.all_eq_true.mp b'.2.2 e (List.mem_of_getElem? he)))
  · rw [aMg_get hle, aLw_len b, if_pos (by omega), isM_1.2.2.2.1]
    dsimp only
    rw [aLw_74 b]
  · rw [aMg_get hle, aLw_len b, if_pos (by omega), isM_1.2.2.1]
    dsimp only
    rw [aLw_75 b]
  · rw [aMg_get hle, aLw_len b, if_neg (by omega), List.getElem?_eq_none (by rw [b'.2.1]; show 19 ≤ 19 + (j - 76); omega)]
    rfl
theorem lo_ok {p : Nat → Bool} (b : aLk hx hm) (hp : ∀ r, r < 55 → p r = true) {j : Nat} {e : aCell} (he : hx[j]? = some e) : aCo p e = true := by
  have h1 := List.all_eq_true.mp b.1.2 e (List.mem_of_getElem? he)
  have h2 := aCo_mv (p := aBe 55) (p' := p) (f := id) (fun i hi => hp _ (of_decide_eq_true hi)) h1
  rw [aRc_id] at h2
  exact h2
theorem aLw_rsM (b : aLk hx hm) (hd : ∀ p, aCo p oc = true) (hd2 : ∀ p, aCo p dc = true) : aRs isM (aSb isM is19 76) 0 (aLw hx hm oc dc) = true := by
  refine aRs_of _ _ (fun j e he hix => ?_)
  rw [Nat.zero_add] at hix
  rcases Nat.lt_or_ge j 55 with q | q
  · rw [aLw_lo b q] at he
    exact lo_ok b (fun r h1 => by unfold aSb; rw [isM_1.1 r h1]; exact decide_eq_true (by omega)) he
  · rcases Nat.lt_or_ge j 74 with q2 | q2
    · rw [isM_1.2.1 j q2 q] at hix; cases hix
    · rcases Nat.lt_or_ge j 75 with q3 | q3
      · obtain rfl : j = 74 := by omega
        rw [aLw_74 b] at he; cases he
        exact hd _
      · rcases Nat.lt_or_ge j 76 with q4 | q4
        · obtain rfl : j = 75 := by omega
          rw [aLw_75 b] at he; cases he
          exact hd2 _
        · rw [aLw_hi b q4] at he; cases he
theorem aLw_selC (b : aLk hx hm) : aSel (aLw hx hm oc dc) is55 hx := by
  unfold aSel
  rw [aLw_len b]
  apply List.ext_getElem?
  intro j
  rw [List.getElem?_map, List.getElem?_map]
  rcases Nat.lt_or_ge j 55 with q | q
  · rw [isC_1.2.2.2.2.2 j q]
    show some ((aLw hx hm oc dc)[j]?) = _
    rw [aLw_lo b q]
    obtain ⟨e, he⟩ : ∃ e, hx[j]? = some e := ⟨_, List.getElem?_eq_getElem (by rw [b.1.1]; exact q)⟩
    rw [he]
    show some (some e) = some (some (aRc (aRi 76 is55) e))
    rw [be55 isC_1.2.2.2.2.1 (List.all_eq_true.mp b.1.2 e (List.mem_of_getElem? he))]
  · rw [List.getElem?_eq_none (show is55.length ≤ j from q), List.getElem?_eq_none (by rw [b.1.1]; exact q)]
    rfl
theorem aLw_rsC (b : aLk hx hm) (hd : ∀ p, aCo p oc = true) (hd2 : ∀ p, aCo p dc = true) : aRs is55 (aSb is55 [0] 76) 0 (aLw hx hm oc dc) = true := by
  refine aRs_of _ _ (fun j e he hix => ?_)
  rw [Nat.zero_add] at hix
  rcases Nat.lt_or_ge j 55 with q | q
  · rw [isC_1.1 j q] at hix; cases hix
  · rcases Nat.lt_or_ge j 74 with q2 | q2
    · rw [aLw_mid b q q2] at he
      exact mid_ok b (fun r h1 h2 => by unfold aSb; rw [isC_1.2.1 r h1 h2]; exact decide_eq_true (by omega)) he
    · rcases Nat.lt_or_ge j 75 with q3 | q3
      · obtain rfl : j = 74 := by omega
        rw [aLw_74 b] at he; cases he
        exact hd _
      · rcases Nat.lt_or_ge j 76 with q4 | q4
        · obtain rfl : j = 75 := by omega
          rw [aLw_75 b] at he; cases he
          exact hd2 _
        · rw [aLw_hi b q4] at he; cases he
end ALC
/-! ===== the law's method ===== -/
abbrev mLw (nm : String) (hh : List (Nat × Nat × Nat × Nat)) : aM := (⟨RL, nm, "([I)Z"⟩, cL_law, 10, some .boolean, hh, 11, 386, 631930, 7200314)
section LWC
variable {l : Launch} {X : aX} {nm : String} {hh : List (Nat × Nat × Nat × Nat)} {G : State → Array Value → List Frame → (Nat → Prop) → (Nat → Nat) → State → Prop} {M' : aM} {kc ks pc n idx : Nat} {L st rest av As : List Value} {hx hm hx' hm' : List aCell} {o o' : Nat → Int64} {d d' : Nat → UInt64} {oc dc : aCell}
theorem lw_callA {x : Int32} (hk : aKX (mLw nm hh) M' idx n) (hC : aWr l X M' [0, 55] av (hx ++ [aLa 1 o]) (some (.int x)) (hx' ++ [aLa 1 o'])) (hd : decode cL_law pc = .ok (.invokestatic idx, 3)) (hnn : av.length = n) (hst : st = aPush (av.map (aRv (aRi 76 isA))) rest) (hL : L.all (aVo (aSb isA [0, 55] 76)) = true) (hr : rest.all (aVo (aSb isA [0, 55] 76)) = true) (hcat : (rest.map fun v => v.category).sum ≤ 8) (hf : kc + aMc M' ≤ 631930 ∧ ks + aMs M' ≤ 7200314) (b : aLk hx hm) (b' : aLk hx' hm) (kk : aJ l X (mLw nm hh) ([], G) (kc + aMc M') (ks + aMs M') (pc + 3) L (.int x :: rest) (aLw hx' hm (aLa 1 o') (aDa 1 d))) : aJ l X (mLw nm hh) ([], G) kc ks pc L st (aLw hx hm (aLa 1 o) (aDa 1 d)) := by
  refine a_SX isA (aLw hx' hm (aLa 1 o') (aDa 1 d)) hk hC hd hnn (aLw_selA b) rfl ?_ ?_ hcat hf ?_ (aLw_mgA b b') kk
  · rw [aLw_len b]; exact hst
  · unfold aKeep
    rw [aLw_len b, hL, hr, aLw_rsA b (fun _ => rfl)]
    rfl
  · rw [List.length_append, b'.1.1]; exact Nat.le_refl _
theorem lw_callD {x : Int32} (hk : aKX (mLw nm hh) M' idx n) (hC : aWr l X M' [0, 55] av (hx ++ [aDa 1 d]) (some (.int x)) (hx' ++ [aDa 1 d'])) (hd : decode cL_law pc = .ok (.invokestatic idx, 3)) (hnn : av.length = n) (hst : st = aPush (av.map (aRv (aRi 76 isD))) rest) (hL : L.all (aVo (aSb isD [0, 55] 76)) = true) (hr : rest.all (aVo (aSb isD [0, 55] 76)) = true) (hcat : (rest.map fun v => v.category).sum ≤ 8) (hf : kc + aMc M' ≤ 631930 ∧ ks + aMs M' ≤ 7200314) (b : aLk hx hm) (b' : aLk hx' hm) (kk : aJ l X (mLw nm hh) ([], G) (kc + aMc M') (ks + aMs M') (pc + 3) L (.int x :: rest) (aLw hx' hm (aLa 1 o) (aDa 1 d'))) : aJ l X (mLw nm hh) ([], G) kc ks pc L st (aLw hx hm (aLa 1 o) (aDa 1 d)) := by
  refine a_SX isD (aLw hx' hm (aLa 1 o) (aDa 1 d')) hk hC hd hnn (aLw_selD b) rfl ?_ ?_ hcat hf ?_ (aLw_mgD b b') kk
  · rw [aLw_len b]; exact hst
  · unfold aKeep
    rw [aLw_len b, hL, hr, aLw_rsD b (fun _ => rfl)]
    rfl
  · rw [List.length_append, b'.1.1]; exact Nat.le_refl _
theorem lw_callM {x : Value} {fs : List Value} (hk : aKV (mLw nm hh) M' idx n 7) (hC : aWr l X M' is19 (.ref 0 :: As) hm (some x) hm') (hd : decode cL_law pc = .ok (.invokevirtual idx, 3)) (hnn : As.length = n) (hrc : hm[0]? = some (aOb 7 fs)) (hst : st = aPush ((.ref 0 :: As).map (aRv (aRi 76 isM))) rest) (hL : L.all (aVo (aSb isM is19 76)) = true) (hr : rest.all (aVo (aSb isM is19 76)) = true) (hcat : (rest.map fun v => v.category).sum ≤ 8) (hf : kc + aMc M' ≤ 631930 ∧ ks + aMs M' ≤ 7200314) (b : aLk hx hm) (b' : aLk hx hm') (hxx : ∀ f, aRv f x = x) (kk : aJ l X (mLw nm hh) ([], G) (kc + aMc M') (ks + aMs M') (pc + 3) L (x :: rest) (aLw hx hm' (aLa 1 o) (aDa 1 d))) : aJ l X (mLw nm hh) ([], G) kc ks pc L st (aLw hx hm (aLa 1 o) (aDa 1 d)) := by
  refine a_Vw isM (aLw hx hm' (aLa 1 o) (aDa 1 d)) hk hC hd hnn hrc (aLw_selM b) rfl ?_ ?_ hcat hf ?_ (aLw_mgM b b') (hxx _) kk
  · rw [aLw_len b]; exact hst
  · unfold aKeep
    rw [aLw_len b, hL, hr, aLw_rsM b (fun _ => rfl) (fun _ => rfl)]
    rfl
  · rw [b'.2.1]; exact Nat.le_refl _
theorem lw_callC {x : Value} {fs : List Value} (hk : aKV (mLw nm hh) M' idx n 6) (hC : aRd l X M' [0] (.ref 0 :: As) hx x) (hd : decode cL_law pc = .ok (.invokevirtual idx, 3)) (hnn : As.length = n) (hrc : hx[0]? = some (aOb 6 fs)) (hst : st = aPush ((.ref 0 :: As).map (aRv (aRi 76 is55))) rest) (hL : L.all (aVo (aSb is55 [0] 76)) = true) (hr : rest.all (aVo (aSb is55 [0] 76)) = true) (hcat : (rest.map fun v => v.category).sum ≤ 8) (hf : kc + aMc M' ≤ 631930 ∧ ks + aMs M' ≤ 7200314) (b : aLk hx hm) (hxx : ∀ f, aRv f x = x) (kk : aJ l X (mLw nm hh) ([], G) (kc + aMc M') (ks + aMs M') (pc + 3) L (x :: rest) (aLw hx hm (aLa 1 o) (aDa 1 d))) : aJ l X (mLw nm hh) ([], G) kc ks pc L st (aLw hx hm (aLa 1 o) (aDa 1 d)) := by
  refine a_Vw is55 (aLw hx hm (aLa 1 o) (aDa 1 d)) hk hC hd hnn hrc (aLw_selC b) rfl ?_ ?_ hcat hf ?_ (aMg_id (aLw_selC b) rfl) (hxx _) kk
  · rw [aLw_len b]; exact hst
  · unfold aKeep
    rw [aLw_len b, hL, hr, aLw_rsC b (fun _ => rfl) (fun _ => rfl)]
    rfl
  · rw [b.1.1]; exact Nat.le_refl _
end LWC
