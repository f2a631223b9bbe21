/-! written by wip/whole/pp.py out of wip/whole/src/49.start.lean -/

/-! ===== the start ===== -/
theorem aTb.start {s : State} {args : Array Value} (h : ∀ w ∈ lw_tbl, w.before args s = true) : aTb s := by
  intro w hw a
  have hb := h w hw.1
  have hk := hw.2
  simp only [aWk, Bool.or_eq_true] at hk
  rcases hk with hk | hk
  · exact word_at (State.WarmedH.refl s) (good_of_word hk) hb
  · cases w <;> first | (exact va_Nw.use rfl (va_Nw.of rfl hb)) | (cases hk)
def txC (w : Cond) : Bool := match w with
  | .stringRef own k _ => decide (Cond.exactly (.string own k) "java/lang/String" ∈ flatC (Jvm.Cond.and given_1 narrow_1))
  | _ => true
theorem tx_all : lw_tbl.all txC = true := by decide +kernel
theorem aTx.start {s : State} {args : Array Value} (h : ∀ w ∈ lw_tbl, w.before args s = true) (hg : (Jvm.Cond.and given_1 narrow_1).before args s = true) : aTx s := by
  intro q hq own k tx e
  have h1 := List.all_eq_true.mp tx_all q hq
  rw [e] at h1
  have h2 : Cond.exactly (.string own k) "java/lang/String" ∈ flatC (Jvm.Cond.and given_1 narrow_1) := of_decide_eq_true h1
  have h3 := flat_of_before _ hg _ h2
  obtain ⟨a, c, cA, kA, q1, -⟩ := Cond.exactly_spec (args := args) (first := s) (o := none) (s := s) (idx := []) (t := .string own k) (cls := "java/lang/String") h3
  have h4 := h q hq
  rw [e] at h4
  exact ⟨a, vk_R.of h4 q1⟩
theorem arr_known {s : State} {args : Array Value} {ty : FieldType} (h : (Cond.arrayClass ty).before args s = true) : ∃ cA, ArrOfT s cA ty ∧ s.vm.findClass ("[" ++ ty.toString) = some cA := by
  obtain ⟨c, k, comp, h1, h2, h3⟩ := Cond.arrayClass_spec (args := args) (first := s) (o := none) (s := s) (idx := []) h
  exact ⟨c, fun n z => ⟨fun k h => (by cases h), k, h2, comp, h3⟩, h1⟩
theorem arr_knownO {s : State} {args : Array Value} {C : String} (h : (Cond.arrayOver (.object C)).before args s = true) : ∃ cA, ArrOfT s cA (.object C) ∧ va_RA s cA (.object C) := by
  obtain ⟨comp, c, k, h1, h2, h3, h4, h5⟩ := Cond.arrayOver_spec (args := args) (first := s) (o := none) (s := s) (idx := []) h
  exact ⟨c, fun n z => ⟨fun k h => (by cases h), k, h3, comp, h4⟩, k, comp, h3, h4, h1, h5⟩
theorem sc_el : ∀ j, j < 16 → Cond.eq (.elem (.static "PreferenceTable" "SLOT_COUNTS" "[I") (.int (Int32.ofNat j))) (.int (slC j)) ∈ flatC (Jvm.Cond.and given_1 narrow_1) := by decide +kernel
theorem whole_start {p : Program} {e : Env} {s : State} {m : MethodId} {below : List Frame} {meth : Method} {c : Code} (l : Launch) (hflags : l.flags = flags0) {b L : Nat} {xs : Nat → Int32} (hL : L ≤ 1536) (C0 : lw_At p s m meth c b L xs) : W p l e room_1 s m #[Value.ref b] below meth c s.heap [] 0 0 (lw_Z below #[Value.ref b] s) (entryFrame m ([Value.ref b] : List Value).toArray 10) := by
  obtain ⟨hx, hb, hr, hml, hown, hts, hX, hbl, hlocks, hgv⟩ := id C0
  have hl : l.stackTraces = false := by
    unfold Launch.stackTraces
    rw [hflags]
    decide +kernel
  have hnA : ∀ a : Nat, a < s.heap.size → ¬ (fun q : Nat => s.heap.size ≤ q) a := fun a ha => Nat.not_le.mpr ha
  have hfl := flat_of_before _ hgv
  obtain ⟨c0, i0, hKn0⟩ := u_known (C := RX0) (T := TX0) (N := 4) (n := 4) hts (fun w hw => (u_X0 w hw).1) (hts (.instantiable RX0 4) ins_X0.1)
  obtain ⟨c1, i1, hKn1⟩ := u_known (C := RX1) (T := TX1) (N := 2) (n := 2) hts (fun w hw => (u_X1 w hw).1) (hts (.instantiable RX1 2) ins_X1.1)
  obtain ⟨c2, i2, hKn2⟩ := u_known (C := RX2) (T := TX2) (N := 3) (n := 3) hts (fun w hw => (u_X2 w hw).1) (hts (.instantiable RX2 3) ins_X2.1)
  obtain ⟨c3, i3, hKn3⟩ := u_known (C := RX3) (T := TX3) (N := 6) (n := 6) hts (fun w hw => (u_X3 w hw).1) (hts (.instantiable RX3 6) ins_X3.1)
  obtain ⟨c4, i4, hKn4⟩ := u_known (C := RX4) (T := TX4) (N := 2) (n := 2) hts (fun w hw => (u_X4 w hw).1) (hts (.instantiable RX4 2) ins_X4.1)
  obtain ⟨c5, i5, hKn5⟩ := u_known (C := RX5) (T := TX5) (N := 4) (n := 4) hts (fun w hw => (u_X5 w hw).1) (hts (.instantiable RX5 4) ins_X5.1)
  obtain ⟨c6, i6, hKn6⟩ := u_known (C := RX6) (T := TX6) (N := 5) (n := 5) hts (fun w hw => (u_X6 w hw).1) (hts (.instantiable RX6 5) ins_X6.1)
  obtain ⟨c7, i7, hKn7⟩ := u_known (C := RX7) (T := TX7) (N := 25) (n := 25) hts (fun w hw => (u_X7 w hw).1) (hts (.instantiable RX7 25) ins_X7.1)
  obtain ⟨a0, ha0, ha0'⟩ := arr_known (hts (.arrayClass .int) ar_int.1)
  obtain ⟨a1, ha1, ha1'⟩ := arr_known (hts (.arrayClass .long) ar_long.1)
  obtain ⟨a2, ha2, ha2'⟩ := arr_known (hts (.arrayClass .double) ar_double.1)
  obtain ⟨a3, ha3, ha3'⟩ := arr_known (hts (.arrayClass .boolean) ar_boolean.1)
  have hAO := hts (.arrayOver (.object RX4)) (by decide +kernel)
  obtain ⟨a4, ha4, ha4'⟩ := arr_knownO hAO
  obtain ⟨sc, hsc, hscT⟩ := va_Tof (args := #[Value.ref b]) (s := s) (tm := .static "PreferenceTable" "SLOT_COUNTS" "[I") (ty := .int) (N := 16) (f := fun j => .int (slC j)) (A := fun q : Nat => s.heap.size ≤ q) (by decide) (hfl _ (by decide +kernel)) (va_eqt (hfl (Cond.eq (.length (.static "PreferenceTable" "SLOT_COUNTS" "[I")) (.int 16)) (by decide +kernel))) (fun j hj => va_eqt (hfl _ (sc_el j hj))) hnA
  generalize hXe : (((fun k => [c0, c1, c2, c3, c4, c5, c6, c7].getD k 0, fun k => [i0, i1, i2, i3, i4, i5, i6, i7].getD k (fun _ => 0)), fun k => [a0, a1, a2, a3, a4].getD k 0, fun k => [sc, b].getD k 0, fun k => [16, L].getD k 0, fun k => if k = 0 then slC else xs) : aX) = X
  have x1 : X.1 = (fun k => [c0, c1, c2, c3, c4, c5, c6, c7].getD k 0, fun k => [i0, i1, i2, i3, i4, i5, i6, i7].getD k (fun _ => 0)) := by rw [← hXe]
  have x2 : ∀ k, X.2.1 k = [a0, a1, a2, a3, a4].getD k 0 := fun k => by rw [← hXe]
  have x3 : ∀ k, X.2.2.1 k = [sc, b].getD k 0 := fun k => by rw [← hXe]
  have x4 : ∀ k, X.2.2.2.1 k = [16, L].getD k 0 := fun k => by rw [← hXe]
  have x5 : ∀ k, X.2.2.2.2 k = if k = 0 then slC else xs := fun k => by rw [← hXe]
  have xb : X.2.2.1 1 = b := x3 1
  have hK : va_K X.1 vwCl (aTy X) s := by
    refine ⟨fun k q hq => ?_, fun k q hq => ?_⟩
    · rw [x1]
      match k, hq with
      | 0, hq => cases hq; exact hKn0
      | 1, hq => cases hq; exact hKn1
      | 2, hq => cases hq; exact hKn2
      | 3, hq => cases hq; exact hKn3
      | 4, hq => cases hq; exact hKn4
      | 5, hq => cases hq; exact hKn5
      | 6, hq => cases hq; exact hKn6
      | 7, hq => cases hq; exact hKn7
      | k + 8, hq => cases hq
    · unfold aTy at hq
      rw [x2, x2, x2, x2, x2] at hq
      match k, hq with
      | 0, hq => cases hq; exact ⟨ha0, ha0'⟩
      | 1, hq => cases hq; exact ⟨ha1, ha1'⟩
      | 2, hq => cases hq; exact ⟨ha2, ha2'⟩
      | 3, hq => cases hq; exact ⟨ha3, ha3'⟩
      | 4, hq => cases hq; exact ⟨ha4, ha4'⟩
      | k + 5, hq => cases hq
  have hSt : aSt X (fun q : Nat => s.heap.size ≤ q) s s.heap := by
    refine ⟨vx_Zqof (hts _ (by decide +kernel)) (hts _ (by decide +kernel)) (hfl _ (by decide +kernel)) hnA, vx_Zqof (hts _ (by decide +kernel)) (hts _ (by decide +kernel)) (hfl _ (by decide +kernel)) hnA, ?_, fun k hk => ?_⟩
    · rw [x3]
      exact va_Zof (hts _ (by decide +kernel)) (hts _ ini_X6.1) hsc hnA
    · rw [x3, x4, x5]
      match k, hk with
      | 0, _ => exact hscT
      | 1, _ =>
        obtain ⟨scr, g1, g2, g3, g4, g5⟩ := hX
        exact ⟨scr, g1, g2, g3, by rw [g4]; exact Nat.le_refl _, by rw [g4]; rfl, g5, hnA b hbl⟩
  have hEn : aEn X (fun q : Nat => s.heap.size ≤ q) s s.heap := ⟨aTb.start hts, hK, va_AO.of hAO, aTx.start hts hgv, va_Nc.of (hfl (Cond.not (.castable "java/lang/IllegalStateException" "java/lang/IllegalArgumentException")) (by decide +kernel)), hSt⟩
  have hXok : aXok X := ⟨x4 0, fun j _ => by rw [x5]; rfl⟩
  have hJ := lw_body (l := l) (X := X) (nm := meth.name) (hh := c.exceptionTable.toList.map (fun z => (z.startPc, z.endPc, z.handlerPc, z.catchType))) hl hXok (by rw [x4]; exact hL)
  have htab : c.exceptionTable.toList = tableOf (c.exceptionTable.toList.map (fun z => (z.startPc, z.endPc, z.handlerPc, z.catchType))) := by
    unfold tableOf
    rw [List.map_map]
    exact (List.map_id _).symm
  have hent := aLv.entry X (fun _ => 0) [.retAddr 1] (n := 10) (Nat.le_of_ble_eq_true rfl)
  have hav : ([.retAddr 1] : List Value).map (aV X (fun _ => 0)) = [.ref b] := by
    show [Value.ref (X.2.2.1 1)] = _
    rw [xb]
  rw [hav] at hent
  have hw := hJ p e s m #[Value.ref b] below meth c s.heap [] _ (fun q : Nat => s.heap.size ≤ q) (fun _ => 0) (fun _ => 0) ⟨⟨hx, hb, hr, hml, hown, hlocks, rfl, htab⟩, hEn, fun q hq => hq⟩ ⟨fun i hi => absurd hi List.not_mem_nil, va_S.rf, ⟨fun k q h => (by cases h), ⟨fun i j p q h => (by cases h), fun k q h => (by cases h)⟩⟩, hent⟩
  intro T hT XX
  rw [lg_entry_eq]
  obtain ⟨t, g1, g2⟩ := hw T hT XX
  exact ⟨t, g1, g2 (by rw [xb]) (fun q hq => hq)⟩
set_option maxHeartbeats 4000000 in
theorem lw_walk (l : Launch) (hflags : l.flags = flags0) (b : Addr) (xs : List Int32) : MetFree l x (headSpec (Jvm.Cond.code x code maxLocals ret :: tables_1) room_1) (lw_P b xs) (fun _ _ _ _ _ => True) lw_Q := by
  refine MetFree.of_bodyS (code := code) (maxLocals := maxLocals) (ret := ret) (by decide) ?_ ?_
  · intro args s m h hn
    obtain ⟨meth, c, h1, h2, h3, h4, h5, h6, -, -⟩ := Cond.code_spec hn (atoms_spec (ws := Jvm.Cond.code x code maxLocals ret :: tables_1) h _ List.mem_cons_self)
    exact ⟨meth, c, h1, h2, h3, h4, h5, h6⟩
  · intro p e s m args below meth c s₁ B hml0 hP _
    obtain ⟨rfl, hx, hbd, hgv⟩ := hP
    obtain ⟨scr, harrAt, hlist, hof, hsmall⟩ := hx
    obtain ⟨hcb, hkn, -, -⟩ := State.arrayAt?_spec harrAt
    have hown : s.vm.findClass R_law = some m.cls := findClass_of_methodNamed B.named
    have hts0 : ∀ c ∈ (Jvm.Cond.code x code maxLocals ret :: tables_1), c.before #[Value.ref b] s = true := atoms_spec (ws := Jvm.Cond.code x code maxLocals ret :: tables_1) B.pre
    have hts : ∀ w ∈ lw_tbl, w.before #[Value.ref b] s = true := k2_hts_sels lw_privs (fun w hw => hts0 w (List.mem_cons_of_mem _ hw)) lw_privs_ok
    have hml : c.maxLocals = 10 := B.maxLocals_eq (hts0 _ List.mem_cons_self)
    have X₀ : Stand p l e room_1 s m #[Value.ref b] below meth c s₁ [] 0 0 := Stand.of_body B
    have hh0 : s₁.heap = s.heap := by rw [B.state]; rfl
    have hsz : scr.slots.size = xs.length := by rw [← Array.length_toList, hlist, List.length_map]
    have hval : ∀ j : Nat, j < xs.length → scr.slots[j]? = some (.int (xs.getD j 0)) := fun j hj => by
      rw [← Array.getElem?_toList, hlist]
      simp [hj]
    have hbl : b < s.heap.size := (Array.getElem?_eq_some_iff.mp hcb).1
    have hX : va_X b xs.length (fun j => xs.getD j 0) s s.heap := ⟨scr, hcb, hof, hkn, hsz, hval⟩
    have K : W p l e room_1 s m #[Value.ref b] below meth c s₁.heap [] 0 0 (lw_Z below #[Value.ref b] s) (entryFrame m ([Value.ref b] : List Value).toArray 10) := by
      rw [hh0]
      exact whole_start l hflags hbd ⟨B.exec, B.bytes, B.returns, hml, hown, hts, hX, hbl, B.notSynchronized, hgv⟩
    obtain ⟨t, a1, o, b1, b2, b3⟩ := K s₁ rfl X₀
    exact ⟨t, o, a1, b1, b2, b3⟩
theorem lw_pre_spec {args : Array Value} {s : State} (h : (Jvm.Cond.and given_1 narrow_1).before args s = true) (hr : rest_1_c.before args s = true) : ∃ (b : Addr) (xs : List Int32), lw_P b xs args s := by
  have hs := flat_of_before _ h
  have hq := flat_of_before _ hr
  have hc : (Cond.count 1).before args s = true := hs _ (by decide +kernel)
  have harr : (Cond.arrayOf (.arg 0) .int).before args s = true := hs _ (by decide +kernel)
  have hle : (Cond.le (.length (.arg 0)) (.int 1536)).before args s = true := hs _ (by decide +kernel)
  have hlen : (Cond.isInt (.length (.arg 0))).before args s = true := hq _ (by decide +kernel)
  have hall : (Cond.all (.arg 0) (.isInt (.elem (.arg 0) (.index 0)))).before args s = true := hq _ (by decide +kernel)
  obtain ⟨b, xs, hb, hx⟩ := State.ints_of_pre rfl harr hlen hall
  have hsm : xs.length < 2 ^ 31 := hx.choose_spec.2.2.2
  have hev : (Term.length (.arg 0)).eval args s none [] s = some (.int xs.length.toInt32) := hx.length_eval hb
  have hv := Cond.le_ints hev (show (Term.int 1536).eval args s none [] s = some (.int 1536) from rfl)
  have hd : xs.length.toInt32 ≤ 1536 := by
    simpa [Cond.before, Cond.holds, hv] using hle
  have hN : xs.length ≤ 1536 := (Int32.ofNat_le_ofNat hsm (by decide)).mp (show Int32.ofNat xs.length ≤ Int32.ofNat 1536 from hd)
  exact ⟨b, xs, Cond.one_arg hc (show args[0]? = some (.ref b) from hb), hx, hN, h⟩
theorem lw_comes (l : Launch) (hflags : l.flags = flags0) : Comes l x (Jvm.Cond.code x code maxLocals ret :: tables_1) room_1 (fun tb e args s => Calls_1 tb e args s ∧ rest_1 tb e args s ∧ Pre_1 tb e args s)
    (fun _ _ args s o t => lw_Q args s o t) := by
  intro p e ha hc hk s m args below hf hfit hheap happ hpre
  obtain ⟨b, xs, hP⟩ := lw_pre_spec hpre.2.2 hpre.2.1
  obtain ⟨k, o, h1, h2, h3, hQ⟩ := lw_walk l hflags b xs p e ha hc hk s m args below hf ((Spec.applies_iff_loose hf).mp happ).1 hP trivial
  exact ⟨k, o, h1, h2, h3, hQ⟩
theorem lw_frame {s t : State} {o : Outcome} {args : Array Value} (h : State.butDraws s t lw_cs (fun t1 => Framed s o t1 [] 631930 7200314)) :
    State.butDraws s t [Jvm.Choice.named "NaN.bits"] (fun t1 => Framed s o t1 (fieldLocs frame_1_writes args s ++ arrayLocs frame_1_arrays args s ++ staticLocs frame_1_statics s) 631930 7200314) := h
theorem lw_limb (L : Cond) (hL : ∀ (args : Array Value) (s t : State), L.after args s (.returned (some (.int 1))) t = true) :
    ArmFor flags0 classFile x code maxLocals ret World_1 tables_1 room_1 Calls_1 rest_1 Pre_1
      (fun tb e a s o t => postC L tb e a s o t ∧ State.butDraws s t [Jvm.Choice.named "NaN.bits"] (fun t1 => Framed s o t1 (fieldLocs frame_1_writes a s ++ arrayLocs frame_1_arrays a s ++ staticLocs frame_1_statics s) 631930 7200314)) := by
  intro l hflags _ _ p e ha hc hk s m args below hf hfit hheap happ hpre
  obtain ⟨k, o, h1, h2, h3, rfl, hF⟩ := lw_comes l hflags p e ha hc hk s m args below hf hfit hheap happ hpre
  exact ⟨k, _, h1, h2, h3, hL args s _, lw_frame hF⟩
theorem i_vc : Claimed_1_1 ∧ Claimed_1_2 := ⟨lw_limb limb_1_1 (fun args s t => by simp [limb_1_1, Cond.after, Cond.holds, Cond.value]), lw_limb limb_1_2 (fun args s t => Cond.after_iff.mpr (by
  first | (rw [show limb_1_2 = Cond.eq .result (.int 1) from rfl, Cond.eq_ints (x := 1) (y := 1) rfl rfl]; simp; done) | (simp [limb_1_2, Cond.value, Term.eval]; done)))⟩
