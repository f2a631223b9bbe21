/-! ===== rows: one instruction each (written by wip/whole/rows.py) ===== -/
section AR
variable {l : Launch} {X : aX} {M : aM} {F : aPh} {kc ks pc : Nat} {L st : List Value} {h : List aCell}
theorem a_iadd {x y : Int32} (hd : decode M.2.1 pc = .ok (.iadd, 1))  (k : aJ l X M F kc ks (pc + 1) L (.int (x + y) :: st) h) : aJ l X M F kc ks pc L (.int y :: .int x :: st) h :=
  fun p e s m args below meth c H locs ls A ad ad0 B S => lv_iadd B.1.1 B.1.2.1 hd (k p e s m args below meth c H locs ls A ad ad0 B S)
theorem a_isub {x y : Int32} (hd : decode M.2.1 pc = .ok (.isub, 1))  (k : aJ l X M F kc ks (pc + 1) L (.int (x - y) :: st) h) : aJ l X M F kc ks pc L (.int y :: .int x :: st) h :=
  fun p e s m args below meth c H locs ls A ad ad0 B S => lv_isub B.1.1 B.1.2.1 hd (k p e s m args below meth c H locs ls A ad ad0 B S)
theorem a_imul {x y : Int32} (hd : decode M.2.1 pc = .ok (.imul, 1))  (k : aJ l X M F kc ks (pc + 1) L (.int (x * y) :: st) h) : aJ l X M F kc ks pc L (.int y :: .int x :: st) h :=
  fun p e s m args below meth c H locs ls A ad ad0 B S => lv_imul B.1.1 B.1.2.1 hd (k p e s m args below meth c H locs ls A ad ad0 B S)
theorem a_iand {x y : Int32} (hd : decode M.2.1 pc = .ok (.iand, 1))  (k : aJ l X M F kc ks (pc + 1) L (.int (x &&& y) :: st) h) : aJ l X M F kc ks pc L (.int y :: .int x :: st) h :=
  fun p e s m args below meth c H locs ls A ad ad0 B S => lv_iand B.1.1 B.1.2.1 hd (k p e s m args below meth c H locs ls A ad ad0 B S)
theorem a_idiv {x y : Int32} (hd : decode M.2.1 pc = .ok (.idiv, 1)) (hne : ¬ y = 0) (k : aJ l X M F kc ks (pc + 1) L (.int (x / y) :: st) h) : aJ l X M F kc ks pc L (.int y :: .int x :: st) h :=
  fun p e s m args below meth c H locs ls A ad ad0 B S => lv_idiv B.1.1 B.1.2.1 hd hne (k p e s m args below meth c H locs ls A ad ad0 B S)
theorem a_irem {x y : Int32} (hd : decode M.2.1 pc = .ok (.irem, 1)) (hne : ¬ y = 0) (k : aJ l X M F kc ks (pc + 1) L (.int (x - x / y * y) :: st) h) : aJ l X M F kc ks pc L (.int y :: .int x :: st) h :=
  fun p e s m args below meth c H locs ls A ad ad0 B S => lv_irem B.1.1 B.1.2.1 hd hne (k p e s m args below meth c H locs ls A ad ad0 B S)
theorem a_ladd {x y : Int64} (hd : decode M.2.1 pc = .ok (.ladd, 1))  (k : aJ l X M F kc ks (pc + 1) L (.long (x + y) :: st) h) : aJ l X M F kc ks pc L (.long y :: .long x :: st) h :=
  fun p e s m args below meth c H locs ls A ad ad0 B S => lv_ladd B.1.1 B.1.2.1 hd (k p e s m args below meth c H locs ls A ad ad0 B S)
theorem a_lsub {x y : Int64} (hd : decode M.2.1 pc = .ok (.lsub, 1))  (k : aJ l X M F kc ks (pc + 1) L (.long (x - y) :: st) h) : aJ l X M F kc ks pc L (.long y :: .long x :: st) h :=
  fun p e s m args below meth c H locs ls A ad ad0 B S => lv_lsub B.1.1 B.1.2.1 hd (k p e s m args below meth c H locs ls A ad ad0 B S)
theorem a_lmul {x y : Int64} (hd : decode M.2.1 pc = .ok (.lmul, 1))  (k : aJ l X M F kc ks (pc + 1) L (.long (x * y) :: st) h) : aJ l X M F kc ks pc L (.long y :: .long x :: st) h :=
  fun p e s m args below meth c H locs ls A ad ad0 B S => lv_lmul B.1.1 B.1.2.1 hd (k p e s m args below meth c H locs ls A ad ad0 B S)
theorem a_lrem {x y : Int64} (hd : decode M.2.1 pc = .ok (.lrem, 1)) (hne : ¬ y = 0) (k : aJ l X M F kc ks (pc + 1) L (.long (x - x / y * y) :: st) h) : aJ l X M F kc ks pc L (.long y :: .long x :: st) h :=
  fun p e s m args below meth c H locs ls A ad ad0 B S => lv_lrem B.1.1 B.1.2.1 hd hne (k p e s m args below meth c H locs ls A ad ad0 B S)
theorem a_ddiv {x y : UInt64} (hd : decode M.2.1 pc = .ok (.ddiv, 1)) (hne : vf_n64 (FP.ddiv x y)) (k : aJ l X M F kc ks (pc + 1) L (.double (FP.ddiv x y) :: st) h) : aJ l X M F kc ks pc L (.double y :: .double x :: st) h :=
  fun p e s m args below meth c H locs ls A ad ad0 B S => lv_ddiv B.1.1 B.1.2.1 hd hne (k p e s m args below meth c H locs ls A ad ad0 B S)
theorem a_lcmp {x y : Int64} (hd : decode M.2.1 pc = .ok (.lcmp, 1))  (k : aJ l X M F kc ks (pc + 1) L (.int (lg_cmp x y) :: st) h) : aJ l X M F kc ks pc L (.long y :: .long x :: st) h :=
  fun p e s m args below meth c H locs ls A ad ad0 B S => W.lcmp B.1.1 B.1.2.1 hd (k p e s m args below meth c H locs ls A ad ad0 B S)
theorem a_dcmp {x y : UInt64} {op : CmpOp} (hd : decode M.2.1 pc = .ok (.dcmp op, 1))  (k : aJ l X M F kc ks (pc + 1) L (.int (Op.cmpValue (FP.dcmp x y) op) :: st) h) : aJ l X M F kc ks pc L (.double y :: .double x :: st) h :=
  fun p e s m args below meth c H locs ls A ad ad0 B S => lv_dcmp B.1.1 B.1.2.1 hd (k p e s m args below meth c H locs ls A ad ad0 B S)
theorem a_i2l {x : Int32} (hd : decode M.2.1 pc = .ok (.i2l, 1))  (k : aJ l X M F kc ks (pc + 1) L (.long x.toInt64 :: st) h) : aJ l X M F kc ks pc L (.int x :: st) h :=
  fun p e s m args below meth c H locs ls A ad ad0 B S => lv_i2l B.1.1 B.1.2.1 hd rfl (k p e s m args below meth c H locs ls A ad ad0 B S)
theorem a_l2i {x : Int64} (hd : decode M.2.1 pc = .ok (.l2i, 1))  (k : aJ l X M F kc ks (pc + 1) L (.int x.toInt32 :: st) h) : aJ l X M F kc ks pc L (.long x :: st) h :=
  fun p e s m args below meth c H locs ls A ad ad0 B S => lv_l2i B.1.1 B.1.2.1 hd rfl (k p e s m args below meth c H locs ls A ad ad0 B S)
theorem a_i2d {x : Int32} (hd : decode M.2.1 pc = .ok (.i2d, 1))  (k : aJ l X M F kc ks (pc + 1) L (.double (FP.i2d x) :: st) h) : aJ l X M F kc ks pc L (.int x :: st) h :=
  fun p e s m args below meth c H locs ls A ad ad0 B S => lv_i2d B.1.1 B.1.2.1 hd (k p e s m args below meth c H locs ls A ad ad0 B S)
theorem a_iconst {n : Int} (v : Int32) (hd : decode M.2.1 pc = .ok (.iconst n, 1)) (hv : Int32.ofInt n = v) (k : aJ l X M F kc ks (pc + 1) L (.int v :: st) h) : aJ l X M F kc ks pc L (st) h :=
  fun p e s m args below meth c H locs ls A ad ad0 B S => lv_iconst B.1.1 B.1.2.1 hd hv (k p e s m args below meth c H locs ls A ad ad0 B S)
theorem a_bipush {n : Int} (v : Int32) (hd : decode M.2.1 pc = .ok (.bipush n, 2)) (hv : (Int8.ofInt n).toInt32 = v) (k : aJ l X M F kc ks (pc + 2) L (.int v :: st) h) : aJ l X M F kc ks pc L (st) h :=
  fun p e s m args below meth c H locs ls A ad ad0 B S => lv_bipush B.1.1 B.1.2.1 hd hv (k p e s m args below meth c H locs ls A ad ad0 B S)
theorem a_sipush {n : Int} (v : Int32) (hd : decode M.2.1 pc = .ok (.sipush n, 3)) (hv : (Int16.ofInt n).toInt32 = v) (k : aJ l X M F kc ks (pc + 3) L (.int v :: st) h) : aJ l X M F kc ks pc L (st) h :=
  fun p e s m args below meth c H locs ls A ad ad0 B S => lv_sipush B.1.1 B.1.2.1 hd hv (k p e s m args below meth c H locs ls A ad ad0 B S)
theorem a_lconst {n : Fin 2} (v : Int64) (hd : decode M.2.1 pc = .ok (.lconst n, 1)) (hv : Int64.ofNat (n : Nat) = v) (k : aJ l X M F kc ks (pc + 1) L (.long v :: st) h) : aJ l X M F kc ks pc L (st) h :=
  fun p e s m args below meth c H locs ls A ad ad0 B S => lv_lconst B.1.1 B.1.2.1 hd hv (k p e s m args below meth c H locs ls A ad ad0 B S)
theorem a_dconst0  (hd : decode M.2.1 pc = .ok (.dconst 0, 1))  (k : aJ l X M F kc ks (pc + 1) L (.double FP.dconst0 :: st) h) : aJ l X M F kc ks pc L (st) h :=
  fun p e s m args below meth c H locs ls A ad ad0 B S => lv_dconst0 B.1.1 B.1.2.1 hd (k p e s m args below meth c H locs ls A ad ad0 B S)
theorem a_ldc {i : Nat} {v : Int32} (hd : decode M.2.1 pc = .ok (.ldc i, 2)) (hq : aQ (.constant M.1.cls i v)) (k : aJ l X M F kc ks (pc + 2) L (.int v :: st) h) : aJ l X M F kc ks pc L (st) h :=
  fun p e s m args below meth c H locs ls A ad ad0 B S => lv_ldc B.1.1 B.1.2.1 B.1.2.2.2.2.1 (B.2.1.1 _ hq _) hd (k p e s m args below meth c H locs ls A ad ad0 B S)
theorem a_ldc2 {i : Nat} {v : Int64} (hd : decode M.2.1 pc = .ok (.ldc2_w i, 3)) (hq : aQ (.constantLong M.1.cls i v)) (k : aJ l X M F kc ks (pc + 3) L (.long v :: st) h) : aJ l X M F kc ks pc L (st) h :=
  fun p e s m args below meth c H locs ls A ad ad0 B S => lv_ldc2 B.1.1 B.1.2.1 B.1.2.2.2.2.1 (B.2.1.1 _ hq _) hd (k p e s m args below meth c H locs ls A ad ad0 B S)
theorem a_dup {v : Value} (hd : decode M.2.1 pc = .ok (.dup, 1)) (hc : v.category = 1) (k : aJ l X M F kc ks (pc + 1) L (v :: v :: st) h) : aJ l X M F kc ks pc L (v :: st) h :=
  fun p e s m args below meth c H locs ls A ad ad0 B S => lv_dup B.1.1 B.1.2.1 hd ((aV_cat X ad v).trans hc) (k p e s m args below meth c H locs ls A ad ad0 B S)
theorem a_pop {v : Value} (hd : decode M.2.1 pc = .ok (.pop, 1)) (hc : v.category = 1) (k : aJ l X M F kc ks (pc + 1) L (st) h) : aJ l X M F kc ks pc L (v :: st) h :=
  fun p e s m args below meth c H locs ls A ad ad0 B S => lv_pop B.1.1 B.1.2.1 hd ((aV_cat X ad v).trans hc) (k p e s m args below meth c H locs ls A ad ad0 B S)
theorem a_dup2 {v w : Value} (hd : decode M.2.1 pc = .ok (.dup2, 1)) (hc : v.category = 1) (hc2 : w.category = 1) (k : aJ l X M F kc ks (pc + 1) L (v :: w :: v :: w :: st) h) : aJ l X M F kc ks pc L (v :: w :: st) h :=
  fun p e s m args below meth c H locs ls A ad ad0 B S => lv_dup2_11 B.1.1 B.1.2.1 hd ((aV_cat X ad v).trans hc) ((aV_cat X ad w).trans hc2) (k p e s m args below meth c H locs ls A ad ad0 B S)
theorem a_iload {i : Nat} {x : Int32} (hd : decode M.2.1 pc = .ok (.iload i, 2)) (hl : L[i]? = some (.int x)) (k : aJ l X M F kc ks (pc + 2) L (.int x :: st) h) : aJ l X M F kc ks pc L (st) h :=
  fun p e s m args below meth c H locs ls A ad ad0 B S => lv_iload B.1.1 B.1.2.1 hd (S.2.2.2.2.2 i _ hl (fun z => nomatch z)) (k p e s m args below meth c H locs ls A ad ad0 B S)
theorem a_iload_n {i : Fin 4} {x : Int32} (hd : decode M.2.1 pc = .ok (.iload_n i, 1)) (hl : L[(i : Nat)]? = some (.int x)) (k : aJ l X M F kc ks (pc + 1) L (.int x :: st) h) : aJ l X M F kc ks pc L (st) h :=
  fun p e s m args below meth c H locs ls A ad ad0 B S => lv_iload_n B.1.1 B.1.2.1 hd rfl (S.2.2.2.2.2 i _ hl (fun z => nomatch z)) (k p e s m args below meth c H locs ls A ad ad0 B S)
theorem a_lload {i : Nat} {x : Int64} (hd : decode M.2.1 pc = .ok (.lload i, 2)) (hl : L[i]? = some (.long x)) (k : aJ l X M F kc ks (pc + 2) L (.long x :: st) h) : aJ l X M F kc ks pc L (st) h :=
  fun p e s m args below meth c H locs ls A ad ad0 B S => lv_lload B.1.1 B.1.2.1 hd (S.2.2.2.2.2 i _ hl (fun z => nomatch z)) (k p e s m args below meth c H locs ls A ad ad0 B S)
theorem a_lload_n {i : Fin 4} {x : Int64} (hd : decode M.2.1 pc = .ok (.lload_n i, 1)) (hl : L[(i : Nat)]? = some (.long x)) (k : aJ l X M F kc ks (pc + 1) L (.long x :: st) h) : aJ l X M F kc ks pc L (st) h :=
  fun p e s m args below meth c H locs ls A ad ad0 B S => lv_lload_n B.1.1 B.1.2.1 hd rfl (S.2.2.2.2.2 i _ hl (fun z => nomatch z)) (k p e s m args below meth c H locs ls A ad ad0 B S)
theorem a_dload {i : Nat} {x : UInt64} (hd : decode M.2.1 pc = .ok (.dload i, 2)) (hl : L[i]? = some (.double x)) (k : aJ l X M F kc ks (pc + 2) L (.double x :: st) h) : aJ l X M F kc ks pc L (st) h :=
  fun p e s m args below meth c H locs ls A ad ad0 B S => lv_dload B.1.1 B.1.2.1 hd (S.2.2.2.2.2 i _ hl (fun z => nomatch z)) (k p e s m args below meth c H locs ls A ad ad0 B S)
theorem a_dload_n {i : Fin 4} {x : UInt64} (hd : decode M.2.1 pc = .ok (.dload_n i, 1)) (hl : L[(i : Nat)]? = some (.double x)) (k : aJ l X M F kc ks (pc + 1) L (.double x :: st) h) : aJ l X M F kc ks pc L (st) h :=
  fun p e s m args below meth c H locs ls A ad ad0 B S => lv_dload_n B.1.1 B.1.2.1 hd rfl (S.2.2.2.2.2 i _ hl (fun z => nomatch z)) (k p e s m args below meth c H locs ls A ad ad0 B S)
theorem a_aload {i : Nat} {x : Nat} (hd : decode M.2.1 pc = .ok (.aload i, 2)) (hl : L[i]? = some (.ref x)) (k : aJ l X M F kc ks (pc + 2) L (.ref x :: st) h) : aJ l X M F kc ks pc L (st) h :=
  fun p e s m args below meth c H locs ls A ad ad0 B S => lv_aload B.1.1 B.1.2.1 hd (S.2.2.2.2.2 i _ hl (fun z => nomatch z)) (k p e s m args below meth c H locs ls A ad ad0 B S)
theorem a_aload_n {i : Fin 4} {x : Nat} (hd : decode M.2.1 pc = .ok (.aload_n i, 1)) (hl : L[(i : Nat)]? = some (.ref x)) (k : aJ l X M F kc ks (pc + 1) L (.ref x :: st) h) : aJ l X M F kc ks pc L (st) h :=
  fun p e s m args below meth c H locs ls A ad ad0 B S => lv_aload_n B.1.1 B.1.2.1 hd rfl (S.2.2.2.2.2 i _ hl (fun z => nomatch z)) (k p e s m args below meth c H locs ls A ad ad0 B S)
theorem a_xload_n {i : Fin 4} {x : Nat} (hd : decode M.2.1 pc = .ok (.aload_n i, 1)) (hl : L[(i : Nat)]? = some (.retAddr x)) (k : aJ l X M F kc ks (pc + 1) L (.retAddr x :: st) h) : aJ l X M F kc ks pc L st h :=
  fun p e s m args below meth c H locs ls A ad ad0 B S => lv_aload_n B.1.1 B.1.2.1 hd rfl (S.2.2.2.2.2 i _ hl (fun z => nomatch z)) (k p e s m args below meth c H locs ls A ad ad0 B S)
theorem a_istore {i : Nat} {x : Int32} (hd : decode M.2.1 pc = .ok (.istore i, 2)) (hn : i < M.2.2.1) (hw : aLow L i = true) (k : aJ l X M F kc ks (pc + 2) (L.set i (.int x)) st h) : aJ l X M F kc ks pc L (.int x :: st) h :=
  fun p e s m args below meth c H locs ls A ad ad0 B S => lv_istore B.1.1 B.1.2.1 hd (aLv.has S.2.2.2) hn rfl (fun ls' hl' => k p e s m args below meth c H locs ls' A ad ad0 B ⟨S.1, S.2.1, S.2.2.1, aLv.put1 hw hl'⟩)
theorem a_istore_n {i : Fin 4} {x : Int32} (hd : decode M.2.1 pc = .ok (.istore_n i, 1)) (hn : (i : Nat) < M.2.2.1) (hw : aLow L i = true) (k : aJ l X M F kc ks (pc + 1) (L.set (i : Nat) (.int x)) st h) : aJ l X M F kc ks pc L (.int x :: st) h :=
  fun p e s m args below meth c H locs ls A ad ad0 B S => lv_istore_n B.1.1 B.1.2.1 hd rfl (aLv.has S.2.2.2) hn rfl (fun ls' hl' => k p e s m args below meth c H locs ls' A ad ad0 B ⟨S.1, S.2.1, S.2.2.1, aLv.put1 hw hl'⟩)
theorem a_lstore {i : Nat} {x : Int64} (hd : decode M.2.1 pc = .ok (.lstore i, 2)) (hn : i + 1 < M.2.2.1) (hw : aLow L i = true) (k : aJ l X M F kc ks (pc + 2) ((L.set i (.long x)).set (i + 1) .null) st h) : aJ l X M F kc ks pc L (.long x :: st) h :=
  fun p e s m args below meth c H locs ls A ad ad0 B S => lv_lstore B.1.1 B.1.2.1 hd (aLv.has S.2.2.2) hn rfl (fun ls' hl' => k p e s m args below meth c H locs ls' A ad ad0 B ⟨S.1, S.2.1, S.2.2.1, aLv.put2 hw hl'⟩)
theorem a_lstore_n {i : Fin 4} {x : Int64} (hd : decode M.2.1 pc = .ok (.lstore_n i, 1)) (hn : (i : Nat) + 1 < M.2.2.1) (hw : aLow L i = true) (k : aJ l X M F kc ks (pc + 1) ((L.set (i : Nat) (.long x)).set ((i : Nat) + 1) .null) st h) : aJ l X M F kc ks pc L (.long x :: st) h :=
  fun p e s m args below meth c H locs ls A ad ad0 B S => lv_lstore_n B.1.1 B.1.2.1 hd rfl (aLv.has S.2.2.2) hn rfl (fun ls' hl' => k p e s m args below meth c H locs ls' A ad ad0 B ⟨S.1, S.2.1, S.2.2.1, aLv.put2 hw hl'⟩)
theorem a_dstore {i : Nat} {x : UInt64} (hd : decode M.2.1 pc = .ok (.dstore i, 2)) (hn : i + 1 < M.2.2.1) (hw : aLow L i = true) (k : aJ l X M F kc ks (pc + 2) ((L.set i (.double x)).set (i + 1) .null) st h) : aJ l X M F kc ks pc L (.double x :: st) h :=
  fun p e s m args below meth c H locs ls A ad ad0 B S => lv_dstore B.1.1 B.1.2.1 hd (aLv.has S.2.2.2) hn rfl (fun ls' hl' => k p e s m args below meth c H locs ls' A ad ad0 B ⟨S.1, S.2.1, S.2.2.1, aLv.put2 hw hl'⟩)
theorem a_dstore_n {i : Fin 4} {x : UInt64} (hd : decode M.2.1 pc = .ok (.dstore_n i, 1)) (hn : (i : Nat) + 1 < M.2.2.1) (hw : aLow L i = true) (k : aJ l X M F kc ks (pc + 1) ((L.set (i : Nat) (.double x)).set ((i : Nat) + 1) .null) st h) : aJ l X M F kc ks pc L (.double x :: st) h :=
  fun p e s m args below meth c H locs ls A ad ad0 B S => lv_dstore_n B.1.1 B.1.2.1 hd rfl (aLv.has S.2.2.2) hn rfl (fun ls' hl' => k p e s m args below meth c H locs ls' A ad ad0 B ⟨S.1, S.2.1, S.2.2.1, aLv.put2 hw hl'⟩)
theorem a_astore {i : Nat} {x : Nat} (hd : decode M.2.1 pc = .ok (.astore i, 2)) (hn : i < M.2.2.1) (hw : aLow L i = true) (k : aJ l X M F kc ks (pc + 2) (L.set i (.ref x)) st h) : aJ l X M F kc ks pc L (.ref x :: st) h :=
  fun p e s m args below meth c H locs ls A ad ad0 B S => lv_astore B.1.1 B.1.2.1 hd (aLv.has S.2.2.2) hn rfl (fun ls' hl' => k p e s m args below meth c H locs ls' A ad ad0 B ⟨S.1, S.2.1, S.2.2.1, aLv.put1 hw hl'⟩)
theorem a_astore_n {i : Fin 4} {x : Nat} (hd : decode M.2.1 pc = .ok (.astore_n i, 1)) (hn : (i : Nat) < M.2.2.1) (hw : aLow L i = true) (k : aJ l X M F kc ks (pc + 1) (L.set (i : Nat) (.ref x)) st h) : aJ l X M F kc ks pc L (.ref x :: st) h :=
  fun p e s m args below meth c H locs ls A ad ad0 B S => lv_astore_n B.1.1 B.1.2.1 hd rfl (aLv.has S.2.2.2) hn rfl (fun ls' hl' => k p e s m args below meth c H locs ls' A ad ad0 B ⟨S.1, S.2.1, S.2.2.1, aLv.put1 hw hl'⟩)
theorem a_iinc {i : Nat} {n : Int} {x : Int32} (v : Int32) (hd : decode M.2.1 pc = .ok (.iinc i n, 3)) (hl : L[i]? = some (.int x)) (hv : x + Int32.ofInt n = v) (hn : i < M.2.2.1) (hw : aLow L i = true) (k : aJ l X M F kc ks (pc + 3) (L.set i (.int v)) st h) : aJ l X M F kc ks pc L st h := by
  intro p e s m args below meth c H locs ls A ad ad0 B S
  obtain ⟨j, hj⟩ := List.getElem?_of_mem (aEl_mem (X := X) (ad := ad) (q := (i, .int x)) |>.mpr ⟨_, hl, (fun z => nomatch z), rfl⟩)
  exact lv_iinc B.1.1 B.1.2.1 hd (aLv.has S.2.2.2) hj hv hn rfl (fun ls' hl' => k p e s m args below meth c H locs ls' A ad ad0 B ⟨S.1, S.2.1, S.2.2.1, aLv.put1 hw hl'⟩)
theorem a_drop (i : Nat) (k : aJ l X M F kc ks pc (L.set i .null) st h) : aJ l X M F kc ks pc L st h := by
  intro p e s m args below meth c H locs ls A ad ad0 B S
  refine k p e s m args below meth c H locs ls A ad ad0 B ⟨S.1, S.2.1, S.2.2.1, S.2.2.2.1, S.2.2.2.2.1, fun j v hj hv => ?_⟩
  rw [List.getElem?_set] at hj
  by_cases hij : i = j
  · rw [if_pos hij] at hj
    by_cases hl : j < L.length
    · rw [if_pos (hij ▸ hl)] at hj
      exact absurd (Option.some.inj hj).symm hv
    · rw [if_neg (hij ▸ hl)] at hj
      cases hj
  · rw [if_neg hij] at hj
    exact S.2.2.2.2.2 j v hj hv
theorem a_loc (L' : List Value) (hL : ∀ (i : Nat) (v : Value), L'[i]? = some v → v ≠ .null → L[i]? = some v) (k : aJ l X M F kc ks pc L' st h) : aJ l X M F kc ks pc L st h :=
  fun p e s m args below meth c H locs ls A ad ad0 B S => k p e s m args below meth c H locs ls A ad ad0 B ⟨S.1, S.2.1, S.2.2.1, S.2.2.2.1, S.2.2.2.2.1, fun j v hj hv => S.2.2.2.2.2 j v (hL j v hj hv) hv⟩
theorem a_wid {kc' ks' : Nat} (h1 : kc ≤ kc') (h2 : ks ≤ ks') (k : aJ l X M F kc' ks' pc L st h) : aJ l X M F kc ks pc L st h :=
  fun p e s m args below meth c H locs ls A ad ad0 B S => W.widen h1 h2 (k p e s m args below meth c H locs ls A ad ad0 B S)
theorem a_to {pc' : Nat} {L' st' : List Value} {h' : List aCell} (e1 : pc = pc') (e2 : L = L') (e3 : st = st') (e4 : h = h') (k : aJ l X M F kc ks pc' L' st' h') : aJ l X M F kc ks pc L st h := by
  subst e1; subst e2; subst e3; subst e4; exact k
theorem a_if_eq {x : Int32} {off : Int} (tgt : Nat) (hd : decode M.2.1 pc = .ok (.ifCond .eq off, 3)) (ht : (pc : Int) + off = (tgt : Int)) (kt : x = 0 → aJ l X M F kc ks tgt L st h) (kf : ¬ x = 0 → aJ l X M F kc ks (pc + 3) L st h) : aJ l X M F kc ks pc L (.int x :: st) h :=
  fun p e s m args below meth c H locs ls A ad ad0 B S => lv_if_eq B.1.1 B.1.2.1 hd ht (fun z => kt z p e s m args below meth c H locs ls A ad ad0 B S) (fun z => kf z p e s m args below meth c H locs ls A ad ad0 B S)
theorem a_icmp_eq {x y : Int32} {off : Int} (tgt : Nat) (hd : decode M.2.1 pc = .ok (.if_icmp .eq off, 3)) (ht : (pc : Int) + off = (tgt : Int)) (kt : x = y → aJ l X M F kc ks tgt L st h) (kf : ¬ x = y → aJ l X M F kc ks (pc + 3) L st h) : aJ l X M F kc ks pc L (.int y :: .int x :: st) h :=
  fun p e s m args below meth c H locs ls A ad ad0 B S => lv_icmp_eq B.1.1 B.1.2.1 hd ht (fun z => kt z p e s m args below meth c H locs ls A ad ad0 B S) (fun z => kf z p e s m args below meth c H locs ls A ad ad0 B S)
theorem a_if_ne {x : Int32} {off : Int} (tgt : Nat) (hd : decode M.2.1 pc = .ok (.ifCond .ne off, 3)) (ht : (pc : Int) + off = (tgt : Int)) (kt : ¬ x = 0 → aJ l X M F kc ks tgt L st h) (kf : x = 0 → aJ l X M F kc ks (pc + 3) L st h) : aJ l X M F kc ks pc L (.int x :: st) h :=
  fun p e s m args below meth c H locs ls A ad ad0 B S => lv_if_ne B.1.1 B.1.2.1 hd ht (fun z => kt z p e s m args below meth c H locs ls A ad ad0 B S) (fun z => kf z p e s m args below meth c H locs ls A ad ad0 B S)
theorem a_icmp_ne {x y : Int32} {off : Int} (tgt : Nat) (hd : decode M.2.1 pc = .ok (.if_icmp .ne off, 3)) (ht : (pc : Int) + off = (tgt : Int)) (kt : ¬ x = y → aJ l X M F kc ks tgt L st h) (kf : x = y → aJ l X M F kc ks (pc + 3) L st h) : aJ l X M F kc ks pc L (.int y :: .int x :: st) h :=
  fun p e s m args below meth c H locs ls A ad ad0 B S => lv_icmp_ne B.1.1 B.1.2.1 hd ht (fun z => kt z p e s m args below meth c H locs ls A ad ad0 B S) (fun z => kf z p e s m args below meth c H locs ls A ad ad0 B S)
theorem a_if_lt {x : Int32} {off : Int} (tgt : Nat) (hd : decode M.2.1 pc = .ok (.ifCond .lt off, 3)) (ht : (pc : Int) + off = (tgt : Int)) (kt : x < 0 → aJ l X M F kc ks tgt L st h) (kf : ¬ x < 0 → aJ l X M F kc ks (pc + 3) L st h) : aJ l X M F kc ks pc L (.int x :: st) h :=
  fun p e s m args below meth c H locs ls A ad ad0 B S => lv_if_lt B.1.1 B.1.2.1 hd ht (fun z => kt z p e s m args below meth c H locs ls A ad ad0 B S) (fun z => kf z p e s m args below meth c H locs ls A ad ad0 B S)
theorem a_icmp_lt {x y : Int32} {off : Int} (tgt : Nat) (hd : decode M.2.1 pc = .ok (.if_icmp .lt off, 3)) (ht : (pc : Int) + off = (tgt : Int)) (kt : x < y → aJ l X M F kc ks tgt L st h) (kf : ¬ x < y → aJ l X M F kc ks (pc + 3) L st h) : aJ l X M F kc ks pc L (.int y :: .int x :: st) h :=
  fun p e s m args below meth c H locs ls A ad ad0 B S => lv_icmp_lt B.1.1 B.1.2.1 hd ht (fun z => kt z p e s m args below meth c H locs ls A ad ad0 B S) (fun z => kf z p e s m args below meth c H locs ls A ad ad0 B S)
theorem a_if_ge {x : Int32} {off : Int} (tgt : Nat) (hd : decode M.2.1 pc = .ok (.ifCond .ge off, 3)) (ht : (pc : Int) + off = (tgt : Int)) (kt : 0 ≤ x → aJ l X M F kc ks tgt L st h) (kf : ¬ 0 ≤ x → aJ l X M F kc ks (pc + 3) L st h) : aJ l X M F kc ks pc L (.int x :: st) h :=
  fun p e s m args below meth c H locs ls A ad ad0 B S => lv_if_ge B.1.1 B.1.2.1 hd ht (fun z => kt z p e s m args below meth c H locs ls A ad ad0 B S) (fun z => kf z p e s m args below meth c H locs ls A ad ad0 B S)
theorem a_icmp_ge {x y : Int32} {off : Int} (tgt : Nat) (hd : decode M.2.1 pc = .ok (.if_icmp .ge off, 3)) (ht : (pc : Int) + off = (tgt : Int)) (kt : y ≤ x → aJ l X M F kc ks tgt L st h) (kf : ¬ y ≤ x → aJ l X M F kc ks (pc + 3) L st h) : aJ l X M F kc ks pc L (.int y :: .int x :: st) h :=
  fun p e s m args below meth c H locs ls A ad ad0 B S => lv_icmp_ge B.1.1 B.1.2.1 hd ht (fun z => kt z p e s m args below meth c H locs ls A ad ad0 B S) (fun z => kf z p e s m args below meth c H locs ls A ad ad0 B S)
theorem a_if_gt {x : Int32} {off : Int} (tgt : Nat) (hd : decode M.2.1 pc = .ok (.ifCond .gt off, 3)) (ht : (pc : Int) + off = (tgt : Int)) (kt : 0 < x → aJ l X M F kc ks tgt L st h) (kf : ¬ 0 < x → aJ l X M F kc ks (pc + 3) L st h) : aJ l X M F kc ks pc L (.int x :: st) h :=
  fun p e s m args below meth c H locs ls A ad ad0 B S => lv_if_gt B.1.1 B.1.2.1 hd ht (fun z => kt z p e s m args below meth c H locs ls A ad ad0 B S) (fun z => kf z p e s m args below meth c H locs ls A ad ad0 B S)
theorem a_icmp_gt {x y : Int32} {off : Int} (tgt : Nat) (hd : decode M.2.1 pc = .ok (.if_icmp .gt off, 3)) (ht : (pc : Int) + off = (tgt : Int)) (kt : y < x → aJ l X M F kc ks tgt L st h) (kf : ¬ y < x → aJ l X M F kc ks (pc + 3) L st h) : aJ l X M F kc ks pc L (.int y :: .int x :: st) h :=
  fun p e s m args below meth c H locs ls A ad ad0 B S => lv_icmp_gt B.1.1 B.1.2.1 hd ht (fun z => kt z p e s m args below meth c H locs ls A ad ad0 B S) (fun z => kf z p e s m args below meth c H locs ls A ad ad0 B S)
theorem a_if_le {x : Int32} {off : Int} (tgt : Nat) (hd : decode M.2.1 pc = .ok (.ifCond .le off, 3)) (ht : (pc : Int) + off = (tgt : Int)) (kt : x ≤ 0 → aJ l X M F kc ks tgt L st h) (kf : ¬ x ≤ 0 → aJ l X M F kc ks (pc + 3) L st h) : aJ l X M F kc ks pc L (.int x :: st) h :=
  fun p e s m args below meth c H locs ls A ad ad0 B S => lv_if_le B.1.1 B.1.2.1 hd ht (fun z => kt z p e s m args below meth c H locs ls A ad ad0 B S) (fun z => kf z p e s m args below meth c H locs ls A ad ad0 B S)
theorem a_icmp_le {x y : Int32} {off : Int} (tgt : Nat) (hd : decode M.2.1 pc = .ok (.if_icmp .le off, 3)) (ht : (pc : Int) + off = (tgt : Int)) (kt : x ≤ y → aJ l X M F kc ks tgt L st h) (kf : ¬ x ≤ y → aJ l X M F kc ks (pc + 3) L st h) : aJ l X M F kc ks pc L (.int y :: .int x :: st) h :=
  fun p e s m args below meth c H locs ls A ad ad0 B S => lv_icmp_le B.1.1 B.1.2.1 hd ht (fun z => kt z p e s m args below meth c H locs ls A ad ad0 B S) (fun z => kf z p e s m args below meth c H locs ls A ad ad0 B S)
theorem a_goto {off : Int} (tgt : Nat) (hd : decode M.2.1 pc = .ok (.goto off, 3)) (ht : (pc : Int) + off = (tgt : Int)) (k : aJ l X M F kc ks tgt L st h) : aJ l X M F kc ks pc L st h :=
  fun p e s m args below meth c H locs ls A ad ad0 B S => lv_goto B.1.1 B.1.2.1 hd ht (k p e s m args below meth c H locs ls A ad ad0 B S)
theorem a_ifnull {a : Nat} {off : Int} (hd : decode M.2.1 pc = .ok (.ifnull off, 3)) (k : aJ l X M F kc ks (pc + 3) L st h) : aJ l X M F kc ks pc L (.ref a :: st) h :=
  fun p e s m args below meth c H locs ls A ad ad0 B S => lv_ifnull B.1.1 B.1.2.1 hd (k p e s m args below meth c H locs ls A ad ad0 B S)
end AR
