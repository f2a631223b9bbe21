section
-- ===== PART A: goes FIRST, ahead of the names: the tables' words, and 'selects' of the private methods out of them =====
/-- a private method of a class that the tables say can be made, by its rows of tables_1 -/
def lw_okq (q : MethodName × Nat) : Prop := (q.1.cls ≠ "java/lang/invoke/MethodHandle" ∧ q.1.cls ≠ "java/lang/invoke/VarHandle") ∧ Cond.instantiable q.1.cls q.2 ∈ tables_1 ∧ Cond.privateMethod q.1 ∈ tables_1 ∧ Cond.instanceMethod q.1 ∈ tables_1
theorem lw_p0 : lw_okq (⟨"PreferenceTable", "shareOf", "(I)D"⟩, 5) := ⟨⟨by decide +kernel, by decide +kernel⟩, List.mem_of_getElem? (i := 18) (by decide +kernel), List.mem_of_getElem? (i := 185) (by decide +kernel), List.mem_of_getElem? (i := 186) (by decide +kernel)⟩
theorem lw_p1 : lw_okq (⟨"java/lang/Throwable", "fillInStackTrace", "(I)Ljava/lang/Throwable;"⟩, 6) := ⟨⟨by decide +kernel, by decide +kernel⟩, List.mem_of_getElem? (i := 284) (by decide +kernel), List.mem_of_getElem? (i := 282) (by decide +kernel), List.mem_of_getElem? (i := 283) (by decide +kernel)⟩
theorem lw_p2 : lw_okq (⟨"PreferenceTable$SlotTable", "draw", "(LPreferenceTable$Fleet;I)V"⟩, 6) := ⟨⟨by decide +kernel, by decide +kernel⟩, List.mem_of_getElem? (i := 64) (by decide +kernel), List.mem_of_getElem? (i := 416) (by decide +kernel), List.mem_of_getElem? (i := 417) (by decide +kernel)⟩
theorem lw_p3 : lw_okq (⟨"PreferenceTable$SlotTable", "claim", "(II)Z"⟩, 6) := ⟨⟨by decide +kernel, by decide +kernel⟩, List.mem_of_getElem? (i := 64) (by decide +kernel), List.mem_of_getElem? (i := 436) (by decide +kernel), List.mem_of_getElem? (i := 437) (by decide +kernel)⟩
theorem lw_p4 : lw_okq (⟨"PreferenceTable$SlotTable", "countChanged", "()I"⟩, 6) := ⟨⟨by decide +kernel, by decide +kernel⟩, List.mem_of_getElem? (i := 64) (by decide +kernel), List.mem_of_getElem? (i := 447) (by decide +kernel), List.mem_of_getElem? (i := 448) (by decide +kernel)⟩
theorem lw_p5 : lw_okq (⟨"PreferenceTable$SlotTable", "countForced", "(LPreferenceTable$Fleet;)I"⟩, 6) := ⟨⟨by decide +kernel, by decide +kernel⟩, List.mem_of_getElem? (i := 64) (by decide +kernel), List.mem_of_getElem? (i := 451) (by decide +kernel), List.mem_of_getElem? (i := 452) (by decide +kernel)⟩
theorem lw_p6 : lw_okq (⟨"PreferenceTable", "checkServer", "(I)V"⟩, 5) := ⟨⟨by decide +kernel, by decide +kernel⟩, List.mem_of_getElem? (i := 18) (by decide +kernel), List.mem_of_getElem? (i := 462) (by decide +kernel), List.mem_of_getElem? (i := 463) (by decide +kernel)⟩
theorem lw_p7 : lw_okq (⟨"PreferenceTable$Pins", "append", "(II)V"⟩, 3) := ⟨⟨by decide +kernel, by decide +kernel⟩, List.mem_of_getElem? (i := 48) (by decide +kernel), List.mem_of_getElem? (i := 480) (by decide +kernel), List.mem_of_getElem? (i := 481) (by decide +kernel)⟩
theorem lw_p8 : lw_okq (⟨"PreferenceTable", "lookUp", "(I)I"⟩, 5) := ⟨⟨by decide +kernel, by decide +kernel⟩, List.mem_of_getElem? (i := 18) (by decide +kernel), List.mem_of_getElem? (i := 560) (by decide +kernel), List.mem_of_getElem? (i := 561) (by decide +kernel)⟩
theorem lw_p9 : lw_okq (⟨"PreferenceTable$Tracker", "find", "(I)I"⟩, 4) := ⟨⟨by decide +kernel, by decide +kernel⟩, List.mem_of_getElem? (i := 99) (by decide +kernel), List.mem_of_getElem? (i := 592) (by decide +kernel), List.mem_of_getElem? (i := 593) (by decide +kernel)⟩
theorem lw_p10 : lw_okq (⟨"PreferenceTable$Tracker", "append", "(I)I"⟩, 4) := ⟨⟨by decide +kernel, by decide +kernel⟩, List.mem_of_getElem? (i := 99) (by decide +kernel), List.mem_of_getElem? (i := 596) (by decide +kernel), List.mem_of_getElem? (i := 597) (by decide +kernel)⟩
theorem lw_p11 : lw_okq (⟨"PreferenceTable$Tracker", "replaceLeast", "(I)I"⟩, 4) := ⟨⟨by decide +kernel, by decide +kernel⟩, List.mem_of_getElem? (i := 99) (by decide +kernel), List.mem_of_getElem? (i := 600) (by decide +kernel), List.mem_of_getElem? (i := 601) (by decide +kernel)⟩
theorem lw_p12 : lw_okq (⟨"PreferenceTable$Tracker", "least", "()I"⟩, 4) := ⟨⟨by decide +kernel, by decide +kernel⟩, List.mem_of_getElem? (i := 99) (by decide +kernel), List.mem_of_getElem? (i := 604) (by decide +kernel), List.mem_of_getElem? (i := 605) (by decide +kernel)⟩
theorem lw_p13 : lw_okq (⟨"PreferenceTable$Tracker", "moveForward", "(I)V"⟩, 4) := ⟨⟨by decide +kernel, by decide +kernel⟩, List.mem_of_getElem? (i := 99) (by decide +kernel), List.mem_of_getElem? (i := 616) (by decide +kernel), List.mem_of_getElem? (i := 617) (by decide +kernel)⟩
theorem lw_p14 : lw_okq (⟨"PreferenceTable$Tracker", "isListedBefore", "(II)Z"⟩, 4) := ⟨⟨by decide +kernel, by decide +kernel⟩, List.mem_of_getElem? (i := 99) (by decide +kernel), List.mem_of_getElem? (i := 620) (by decide +kernel), List.mem_of_getElem? (i := 621) (by decide +kernel)⟩
theorem lw_p15 : lw_okq (⟨"PreferenceTable$Tracker", "swap", "(II)V"⟩, 4) := ⟨⟨by decide +kernel, by decide +kernel⟩, List.mem_of_getElem? (i := 99) (by decide +kernel), List.mem_of_getElem? (i := 628) (by decide +kernel), List.mem_of_getElem? (i := 629) (by decide +kernel)⟩
def lw_privs_1 : List (MethodName × Nat) := [(⟨"PreferenceTable", "shareOf", "(I)D"⟩, 5), (⟨"java/lang/Throwable", "fillInStackTrace", "(I)Ljava/lang/Throwable;"⟩, 6), (⟨"PreferenceTable$SlotTable", "draw", "(LPreferenceTable$Fleet;I)V"⟩, 6), (⟨"PreferenceTable$SlotTable", "claim", "(II)Z"⟩, 6), (⟨"PreferenceTable$SlotTable", "countChanged", "()I"⟩, 6), (⟨"PreferenceTable$SlotTable", "countForced", "(LPreferenceTable$Fleet;)I"⟩, 6), (⟨"PreferenceTable", "checkServer", "(I)V"⟩, 5), (⟨"PreferenceTable$Pins", "append", "(II)V"⟩, 3), (⟨"PreferenceTable", "lookUp", "(I)I"⟩, 5), (⟨"PreferenceTable$Tracker", "find", "(I)I"⟩, 4), (⟨"PreferenceTable$Tracker", "append", "(I)I"⟩, 4), (⟨"PreferenceTable$Tracker", "replaceLeast", "(I)I"⟩, 4), (⟨"PreferenceTable$Tracker", "least", "()I"⟩, 4), (⟨"PreferenceTable$Tracker", "moveForward", "(I)V"⟩, 4), (⟨"PreferenceTable$Tracker", "isListedBefore", "(II)Z"⟩, 4), (⟨"PreferenceTable$Tracker", "swap", "(II)V"⟩, 4)]
theorem lw_r1 : ∀ q ∈ lw_privs_1, lw_okq q := List.forall_mem_cons.mpr ⟨lw_p0, List.forall_mem_cons.mpr ⟨lw_p1, List.forall_mem_cons.mpr ⟨lw_p2, List.forall_mem_cons.mpr ⟨lw_p3, List.forall_mem_cons.mpr ⟨lw_p4, List.forall_mem_cons.mpr ⟨lw_p5, List.forall_mem_cons.mpr ⟨lw_p6, List.forall_mem_cons.mpr ⟨lw_p7, List.forall_mem_cons.mpr ⟨lw_p8, List.forall_mem_cons.mpr ⟨lw_p9, List.forall_mem_cons.mpr ⟨lw_p10, List.forall_mem_cons.mpr ⟨lw_p11, List.forall_mem_cons.mpr ⟨lw_p12, List.forall_mem_cons.mpr ⟨lw_p13, List.forall_mem_cons.mpr ⟨lw_p14, List.forall_mem_cons.mpr ⟨lw_p15, fun _ h => absurd h List.not_mem_nil⟩⟩⟩⟩⟩⟩⟩⟩⟩⟩⟩⟩⟩⟩⟩⟩
theorem lw_p16 : lw_okq (⟨"PreferenceTable$Fleet", "countBefore", "(I)I"⟩, 4) := ⟨⟨by decide +kernel, by decide +kernel⟩, List.mem_of_getElem? (i := 26) (by decide +kernel), List.mem_of_getElem? (i := 671) (by decide +kernel), List.mem_of_getElem? (i := 672) (by decide +kernel)⟩
theorem lw_p17 : lw_okq (⟨"PreferenceTable$Fleet", "ranksBefore", "(II)Z"⟩, 4) := ⟨⟨by decide +kernel, by decide +kernel⟩, List.mem_of_getElem? (i := 26) (by decide +kernel), List.mem_of_getElem? (i := 675) (by decide +kernel), List.mem_of_getElem? (i := 676) (by decide +kernel)⟩
theorem lw_p18 : lw_okq (⟨"PreferenceTable", "checkRoomForPin", "(I)V"⟩, 5) := ⟨⟨by decide +kernel, by decide +kernel⟩, List.mem_of_getElem? (i := 18) (by decide +kernel), List.mem_of_getElem? (i := 688) (by decide +kernel), List.mem_of_getElem? (i := 689) (by decide +kernel)⟩
theorem lw_p19 : lw_okq (⟨"PreferenceTable", "checkEntry", "(I)V"⟩, 5) := ⟨⟨by decide +kernel, by decide +kernel⟩, List.mem_of_getElem? (i := 18) (by decide +kernel), List.mem_of_getElem? (i := 730) (by decide +kernel), List.mem_of_getElem? (i := 731) (by decide +kernel)⟩
theorem lw_p20 : lw_okq (⟨"PreferenceTableModel", "begins", "(I)V"⟩, 25) := ⟨⟨by decide +kernel, by decide +kernel⟩, List.mem_of_getElem? (i := 776) (by decide +kernel), List.mem_of_getElem? (i := 782) (by decide +kernel), List.mem_of_getElem? (i := 783) (by decide +kernel)⟩
theorem lw_p21 : lw_okq (⟨"PreferenceTableModel", "isRefused", "(ZZ)Z"⟩, 25) := ⟨⟨by decide +kernel, by decide +kernel⟩, List.mem_of_getElem? (i := 776) (by decide +kernel), List.mem_of_getElem? (i := 878) (by decide +kernel), List.mem_of_getElem? (i := 879) (by decide +kernel)⟩
theorem lw_p22 : lw_okq (⟨"PreferenceTableModel", "slotsNow", "(I)I"⟩, 25) := ⟨⟨by decide +kernel, by decide +kernel⟩, List.mem_of_getElem? (i := 776) (by decide +kernel), List.mem_of_getElem? (i := 898) (by decide +kernel), List.mem_of_getElem? (i := 899) (by decide +kernel)⟩
theorem lw_p23 : lw_okq (⟨"PreferenceTableModel", "ideal", "(I)D"⟩, 25) := ⟨⟨by decide +kernel, by decide +kernel⟩, List.mem_of_getElem? (i := 776) (by decide +kernel), List.mem_of_getElem? (i := 902) (by decide +kernel), List.mem_of_getElem? (i := 903) (by decide +kernel)⟩
theorem lw_p24 : lw_okq (⟨"PreferenceTableModel", "comesAnew", "()V"⟩, 25) := ⟨⟨by decide +kernel, by decide +kernel⟩, List.mem_of_getElem? (i := 776) (by decide +kernel), List.mem_of_getElem? (i := 910) (by decide +kernel), List.mem_of_getElem? (i := 911) (by decide +kernel)⟩
theorem lw_p25 : lw_okq (⟨"PreferenceTableModel", "remembers", "()V"⟩, 25) := ⟨⟨by decide +kernel, by decide +kernel⟩, List.mem_of_getElem? (i := 776) (by decide +kernel), List.mem_of_getElem? (i := 914) (by decide +kernel), List.mem_of_getElem? (i := 915) (by decide +kernel)⟩
theorem lw_p26 : lw_okq (⟨"PreferenceTableModel", "builds", "()V"⟩, 25) := ⟨⟨by decide +kernel, by decide +kernel⟩, List.mem_of_getElem? (i := 776) (by decide +kernel), List.mem_of_getElem? (i := 918) (by decide +kernel), List.mem_of_getElem? (i := 919) (by decide +kernel)⟩
theorem lw_p27 : lw_okq (⟨"PreferenceTableModel", "takes", "(I)V"⟩, 25) := ⟨⟨by decide +kernel, by decide +kernel⟩, List.mem_of_getElem? (i := 776) (by decide +kernel), List.mem_of_getElem? (i := 922) (by decide +kernel), List.mem_of_getElem? (i := 923) (by decide +kernel)⟩
theorem lw_p28 : lw_okq (⟨"PreferenceTableModel", "preferred", "(II)I"⟩, 25) := ⟨⟨by decide +kernel, by decide +kernel⟩, List.mem_of_getElem? (i := 776) (by decide +kernel), List.mem_of_getElem? (i := 926) (by decide +kernel), List.mem_of_getElem? (i := 927) (by decide +kernel)⟩
theorem lw_p29 : lw_okq (⟨"PreferenceTableModel", "differing", "()I"⟩, 25) := ⟨⟨by decide +kernel, by decide +kernel⟩, List.mem_of_getElem? (i := 776) (by decide +kernel), List.mem_of_getElem? (i := 930) (by decide +kernel), List.mem_of_getElem? (i := 931) (by decide +kernel)⟩
theorem lw_p30 : lw_okq (⟨"PreferenceTableModel", "named", "(I)I"⟩, 25) := ⟨⟨by decide +kernel, by decide +kernel⟩, List.mem_of_getElem? (i := 776) (by decide +kernel), List.mem_of_getElem? (i := 946) (by decide +kernel), List.mem_of_getElem? (i := 947) (by decide +kernel)⟩
theorem lw_p31 : lw_okq (⟨"PreferenceTableModel", "count", "()I"⟩, 25) := ⟨⟨by decide +kernel, by decide +kernel⟩, List.mem_of_getElem? (i := 776) (by decide +kernel), List.mem_of_getElem? (i := 950) (by decide +kernel), List.mem_of_getElem? (i := 951) (by decide +kernel)⟩
def lw_privs_2 : List (MethodName × Nat) := [(⟨"PreferenceTable$Fleet", "countBefore", "(I)I"⟩, 4), (⟨"PreferenceTable$Fleet", "ranksBefore", "(II)Z"⟩, 4), (⟨"PreferenceTable", "checkRoomForPin", "(I)V"⟩, 5), (⟨"PreferenceTable", "checkEntry", "(I)V"⟩, 5), (⟨"PreferenceTableModel", "begins", "(I)V"⟩, 25), (⟨"PreferenceTableModel", "isRefused", "(ZZ)Z"⟩, 25), (⟨"PreferenceTableModel", "slotsNow", "(I)I"⟩, 25), (⟨"PreferenceTableModel", "ideal", "(I)D"⟩, 25), (⟨"PreferenceTableModel", "comesAnew", "()V"⟩, 25), (⟨"PreferenceTableModel", "remembers", "()V"⟩, 25), (⟨"PreferenceTableModel", "builds", "()V"⟩, 25), (⟨"PreferenceTableModel", "takes", "(I)V"⟩, 25), (⟨"PreferenceTableModel", "preferred", "(II)I"⟩, 25), (⟨"PreferenceTableModel", "differing", "()I"⟩, 25), (⟨"PreferenceTableModel", "named", "(I)I"⟩, 25), (⟨"PreferenceTableModel", "count", "()I"⟩, 25)]
theorem lw_r2 : ∀ q ∈ lw_privs_2, lw_okq q := List.forall_mem_cons.mpr ⟨lw_p16, List.forall_mem_cons.mpr ⟨lw_p17, List.forall_mem_cons.mpr ⟨lw_p18, List.forall_mem_cons.mpr ⟨lw_p19, List.forall_mem_cons.mpr ⟨lw_p20, List.forall_mem_cons.mpr ⟨lw_p21, List.forall_mem_cons.mpr ⟨lw_p22, List.forall_mem_cons.mpr ⟨lw_p23, List.forall_mem_cons.mpr ⟨lw_p24, List.forall_mem_cons.mpr ⟨lw_p25, List.forall_mem_cons.mpr ⟨lw_p26, List.forall_mem_cons.mpr ⟨lw_p27, List.forall_mem_cons.mpr ⟨lw_p28, List.forall_mem_cons.mpr ⟨lw_p29, List.forall_mem_cons.mpr ⟨lw_p30, List.forall_mem_cons.mpr ⟨lw_p31, fun _ h => absurd h List.not_mem_nil⟩⟩⟩⟩⟩⟩⟩⟩⟩⟩⟩⟩⟩⟩⟩⟩
theorem lw_p32 : lw_okq (⟨"PreferenceTableModel", "keeps", "()V"⟩, 25) := ⟨⟨by decide +kernel, by decide +kernel⟩, List.mem_of_getElem? (i := 776) (by decide +kernel), List.mem_of_getElem? (i := 954) (by decide +kernel), List.mem_of_getElem? (i := 955) (by decide +kernel)⟩
theorem lw_p33 : lw_okq (⟨"PreferenceTableModel", "noServer", "(I)Z"⟩, 25) := ⟨⟨by decide +kernel, by decide +kernel⟩, List.mem_of_getElem? (i := 776) (by decide +kernel), List.mem_of_getElem? (i := 962) (by decide +kernel), List.mem_of_getElem? (i := 963) (by decide +kernel)⟩
theorem lw_p34 : lw_okq (⟨"PreferenceTableModel", "at", "(I)I"⟩, 25) := ⟨⟨by decide +kernel, by decide +kernel⟩, List.mem_of_getElem? (i := 776) (by decide +kernel), List.mem_of_getElem? (i := 1007) (by decide +kernel), List.mem_of_getElem? (i := 1008) (by decide +kernel)⟩
theorem lw_p35 : lw_okq (⟨"PreferenceTableModel", "pinOf", "(I)I"⟩, 25) := ⟨⟨by decide +kernel, by decide +kernel⟩, List.mem_of_getElem? (i := 776) (by decide +kernel), List.mem_of_getElem? (i := 1011) (by decide +kernel), List.mem_of_getElem? (i := 1012) (by decide +kernel)⟩
theorem lw_p36 : lw_okq (⟨"PreferenceTableModel", "tracks", "(II)V"⟩, 25) := ⟨⟨by decide +kernel, by decide +kernel⟩, List.mem_of_getElem? (i := 776) (by decide +kernel), List.mem_of_getElem? (i := 1023) (by decide +kernel), List.mem_of_getElem? (i := 1024) (by decide +kernel)⟩
theorem lw_p37 : lw_okq (⟨"PreferenceTableModel", "ups", "()I"⟩, 25) := ⟨⟨by decide +kernel, by decide +kernel⟩, List.mem_of_getElem? (i := 776) (by decide +kernel), List.mem_of_getElem? (i := 1035) (by decide +kernel), List.mem_of_getElem? (i := 1036) (by decide +kernel)⟩
theorem lw_p38 : lw_okq (⟨"PreferenceTableModel", "ranked", "(I)I"⟩, 25) := ⟨⟨by decide +kernel, by decide +kernel⟩, List.mem_of_getElem? (i := 776) (by decide +kernel), List.mem_of_getElem? (i := 1039) (by decide +kernel), List.mem_of_getElem? (i := 1040) (by decide +kernel)⟩
theorem lw_p39 : lw_okq (⟨"PreferenceTableModel", "noRoom", "(I)Z"⟩, 25) := ⟨⟨by decide +kernel, by decide +kernel⟩, List.mem_of_getElem? (i := 776) (by decide +kernel), List.mem_of_getElem? (i := 1047) (by decide +kernel), List.mem_of_getElem? (i := 1048) (by decide +kernel)⟩
theorem lw_p40 : lw_okq (⟨"PreferenceTableModel", "pinsTo", "(II)I"⟩, 25) := ⟨⟨by decide +kernel, by decide +kernel⟩, List.mem_of_getElem? (i := 776) (by decide +kernel), List.mem_of_getElem? (i := 1051) (by decide +kernel), List.mem_of_getElem? (i := 1052) (by decide +kernel)⟩
theorem lw_p41 : lw_okq (⟨"PreferenceTableModel", "listed", "(I)I"⟩, 25) := ⟨⟨by decide +kernel, by decide +kernel⟩, List.mem_of_getElem? (i := 776) (by decide +kernel), List.mem_of_getElem? (i := 1063) (by decide +kernel), List.mem_of_getElem? (i := 1064) (by decide +kernel)⟩
theorem lw_p42 : lw_okq (⟨"PreferenceTableModel", "noEntry", "(I)Z"⟩, 25) := ⟨⟨by decide +kernel, by decide +kernel⟩, List.mem_of_getElem? (i := 776) (by decide +kernel), List.mem_of_getElem? (i := 1075) (by decide +kernel), List.mem_of_getElem? (i := 1076) (by decide +kernel)⟩
def lw_privs_3 : List (MethodName × Nat) := [(⟨"PreferenceTableModel", "keeps", "()V"⟩, 25), (⟨"PreferenceTableModel", "noServer", "(I)Z"⟩, 25), (⟨"PreferenceTableModel", "at", "(I)I"⟩, 25), (⟨"PreferenceTableModel", "pinOf", "(I)I"⟩, 25), (⟨"PreferenceTableModel", "tracks", "(II)V"⟩, 25), (⟨"PreferenceTableModel", "ups", "()I"⟩, 25), (⟨"PreferenceTableModel", "ranked", "(I)I"⟩, 25), (⟨"PreferenceTableModel", "noRoom", "(I)Z"⟩, 25), (⟨"PreferenceTableModel", "pinsTo", "(II)I"⟩, 25), (⟨"PreferenceTableModel", "listed", "(I)I"⟩, 25), (⟨"PreferenceTableModel", "noEntry", "(I)Z"⟩, 25)]
theorem lw_r3 : ∀ q ∈ lw_privs_3, lw_okq q := List.forall_mem_cons.mpr ⟨lw_p32, List.forall_mem_cons.mpr ⟨lw_p33, List.forall_mem_cons.mpr ⟨lw_p34, List.forall_mem_cons.mpr ⟨lw_p35, List.forall_mem_cons.mpr ⟨lw_p36, List.forall_mem_cons.mpr ⟨lw_p37, List.forall_mem_cons.mpr ⟨lw_p38, List.forall_mem_cons.mpr ⟨lw_p39, List.forall_mem_cons.mpr ⟨lw_p40, List.forall_mem_cons.mpr ⟨lw_p41, List.forall_mem_cons.mpr ⟨lw_p42, fun _ h => absurd h List.not_mem_nil⟩⟩⟩⟩⟩⟩⟩⟩⟩⟩⟩
def lw_privs : List (MethodName × Nat) := lw_privs_1 ++ (lw_privs_2 ++ (lw_privs_3))
def lw_tbl : List Cond := k2_sels lw_privs ++ tables_1
theorem lw_privs_ok : ∀ q ∈ lw_privs, lw_okq q := by
  show ∀ q ∈ lw_privs_1 ++ (lw_privs_2 ++ (lw_privs_3)), lw_okq q
  exact List.forall_mem_append.mpr ⟨lw_r1, List.forall_mem_append.mpr ⟨lw_r2, lw_r3⟩⟩
/-- the streams that the claim lets the run draw from -/
abbrev lw_cs : List Choice := [Jvm.Choice.named "NaN.bits"]
theorem lw_bits : nanBits ∈ lw_cs := by first | decide | exact List.mem_cons_self | simp [lw_cs, nanBits]
end
section
/-! ===== BEGIN words of one list among another's, by their places ===== -/
theorem goodIn_r {big : List Cond} (ws : List Cond) (ps : List Nat) (hp : ws = ps.filterMap (fun i => big[i]?)) (h : ws.all goodWord = true) : GoodIn big ws := by
  intro w hw
  have h1 := List.all_eq_true.mp h w hw
  rw [hp] at hw
  obtain ⟨i, -, hi⟩ := List.mem_filterMap.mp hw
  have hm : w ∈ big := by first | exact List.mem_of_getElem? hi | exact List.getElem?_mem hi
  exact ⟨hm, good_of_word h1⟩
theorem goodIn_app {big a b : List Cond} (ha : GoodIn big a) (hb : GoodIn big b) : GoodIn big (a ++ b) := fun w h => (List.mem_append.mp h).elim (ha w) (hb w)
theorem goodIn_ca {big a b : List Cond} {c : Cond} (ha : GoodIn big (c :: a)) (hb : GoodIn big b) : GoodIn big (c :: (a ++ b)) := fun w h => (List.mem_cons.mp h).elim (fun e => ha w (List.mem_cons.mpr (Or.inl e))) (fun h => (List.mem_append.mp h).elim (fun h => ha w (List.mem_cons.mpr (Or.inr h))) (hb w))
theorem goodIn_sub {big ws : List Cond} (hm : ∀ w ∈ ws, w ∈ big) (h : ws.all goodWord = true) : GoodIn big ws := fun w hw => ⟨hm w hw, good_of_word (List.all_eq_true.mp h w hw)⟩
/-! ===== END ===== -/

/-! ===== BEGIN exceptions that leave a method, and their catching by the caller (launches without stack traces) ===== -/
section VXA
/-! The laws vx_back, vx_callV, vx_callS, vx_callSW, vx_throw0, vx_throwS follow proofs of the library, with one case more: JvmDerived/Free/Laws.lean (Back.of_free), Shelf42/LK1.lean (callV, callS), Shelf/KitTraced.lean (throwNew0V, throwNewS). -/
/-- where a method has thrown q: the class by its name, the cell, what was written, the world -/
def vx_T (XC : String → State → State → Prop) (st : State) (q : Addr) (t : State) (mc ms : Nat) (free : Addr → Prop) : Prop :=
  ∃ (E : String) (ce : Cell) (L : List Loc), XC E st t ∧ t.heap[q]? = some ce ∧ ce.vm = .none ∧ st.vm.findClass E = some ce.cls ∧ st.WarmedH t.vm ∧ st.sameButNew ({ t with vm := st.vm } : State) L mc ms ∧ ∀ z ∈ L, free z.base
def vx_Q (Qc : Array Value → State → Outcome → State → Prop) (XC : String → State → State → Prop) (mc ms : Nat) (free : Addr → Prop) : Array Value → State → Outcome → State → Prop := fun a st o t =>
  (Qc a st o t ∧ ∃ L, FrameEnd st o t L mc ms ∧ ∀ q ∈ L, free q.base) ∨ ∃ q, o = .threw q ∧ vx_T XC st q t mc ms free
/-- a callee that returns or throws -/
def vx_Met (l : Launch) (y : MethodName) (ws : List Cond) (rm : Room) (Pc : Array Value → State → Prop) (Qc : Array Value → State → Outcome → State → Prop) (XC : String → State → State → Prop) (mc ms : Nat) (free : Addr → Prop) : Prop :=
  MetFree l y (headSpec ws rm) Pc (fun _ _ _ _ _ => True) (vx_Q Qc XC mc ms free)
def vx_Post (XC : String → State → State → Prop) (mc ms : Nat) (free : Addr → Prop) : Pt → Array Value → Addr → Pt → Prop := fun A a q B =>
  ∃ (g : JFrame) (mk : MethodId) (t : State) (L : List Loc) (E : String) (ce : Cell), B.U.heap = t.heap ∧ B.U.vm = t.vm ∧ XC E (A.U.calling g mk a) t ∧ t.heap[q]? = some ce ∧ ce.vm = .none ∧ A.U.vm.findClass E = some ce.cls ∧ B.locs = A.locs ++ L ∧ (∀ z ∈ L, free z.base) ∧ B.cells = A.cells + mc ∧ B.slots = A.slots + ms
def vx_Back (l : Launch) (R : Room) (p : Program) (e : Env) (below : List Frame) (s : State) (sargs : Array Value) (y : MethodName) (len W9 : Nat)
    (Pre : Pt → Array Value → Prop) (Post : Pt → Array Value → Option Value → Pt → Prop) (PostX : Pt → Array Value → Addr → Pt → Prop) : Prop :=
  ∀ (m : MethodId) (meth : Method) (c : Code) (A : Pt) (g : JFrame) (ig : Instr) (mk : MethodId) (a : Array Value),
    Stand p l e R s m sargs below meth c A.U A.locs A.cells A.slots → g.method = m → g.locals.size = c.maxLocals → decode c.code g.pc = .ok (ig, len) →
    2 * g.monitorRoom + (g.stack.map fun v => v.category).sum ≤ W9 → A.U.methodNamed? y = some mk → Pre A a →
    (∃ (v : Option Value) (B : Pt), Stand p l e R s m sargs below meth c B.U B.locs B.cells B.slots ∧ Post A a v B ∧
      Steps p.tables e below (doInvoke e (A.U.setTop g) [] mk a).1 (B.U.setTop { g with pc := g.pc + len, stack := v.toList ++ g.stack })) ∨
    (∃ (q : Addr) (B : Pt), Stand p l e R s m sargs below meth c B.U B.locs B.cells B.slots ∧ PostX A a q B ∧
      Steps p.tables e below (doInvoke e (A.U.setTop g) [] mk a).1 ((B.U.setTop g).pushFrame (.throwing q)))
section Payer
variable {l : Launch} {R : Room} {p : Program} {e : Env} {below : List Frame} {s : State} {sargs : Array Value} {y : MethodName} {len W9 : Nat}
theorem vx_back {ws : List Cond} {rm : Room} {Pc : Array Value → State → Prop} {Qc : Array Value → State → Outcome → State → Prop} {XC : String → State → State → Prop} {mc ms : Nat} {free : Addr → Prop} {bytes : ByteArray} {maxL : Nat} {ret : Option FieldType}
    (hM : vx_Met l y ws rm Pc Qc XC mc ms free) (hblind : FrameBlind Pc) (hrc : rm.cells = mc) (hrs : rm.slots = ms)
    (hframes : rm.frames + 1 ≤ R.frames) (hlocals : W9 + (maxL + 11) + rm.locals ≤ R.locals)
    (hws : ∀ w ∈ ws, ∀ a' U, s.WarmedH U.vm → w.before a' U = true) (hcode : Cond.code y bytes maxL ret ∈ ws) (hinit : ∀ a' U, s.WarmedH U.vm → (Cond.initialized y.cls).before a' U = true) :
    vx_Back l R p e below s sargs y len W9 (PreOf R mc ms Pc) (PostOf Qc mc ms free) (vx_Post XC mc ms free) := by
  intro m meth c A g ig mk a X hg hsize hdg hW hn hp
  have h1 : (headSpec ws rm).pre.before a A.U = true := atoms_intro fun w hw => hws w hw _ _ X.warmed
  have h2 : (Cond.code y bytes maxL ret).before a A.U = true := hws _ hcode _ _ X.warmed
  have h3 : (Cond.initialized y.cls).before a A.U = true := hinit _ _ X.warmed
  have h4 : A.cells + (headSpec ws rm).room.cells ≤ R.cells := by rw [show (headSpec ws rm).room.cells = mc from hrc]; exact hp.1
  have h5 : A.slots + (headSpec ws rm).room.slots ≤ R.slots := by rw [show (headSpec ws rm).room.slots = ms from hrs]; exact hp.2.1
  have hPc : Pc a (A.U.calling g mk a) := hblind _ _ _ _ hp.2.2
  obtain ⟨U, Ls, c0, s0⟩ := A
  dsimp only [Pt.U, Pt.locs, Pt.cells, Pt.slots] at h1 h2 h3 h4 h5 X hn hPc ⊢
  obtain ⟨methY, cY, hmY, hcY, -, hlY, -, -, -, -⟩ := Cond.code_spec hn h2
  obtain ⟨kY, hkY, -⟩ := className_of_methodNamed hn
  have hinitY : kY.init = .initialized := Cond.initialized_spec (findClass_of_methodNamed hn) hkY h3
  have h : At U g.method c below := by rw [hg]; exact X.here
  have hlocals9 : W9 + (maxL + 11) + (headSpec ws rm).room.locals ≤ R.locals := hlocals
  have happ : (headSpec ws rm).appliesLoose y e.platform (U.calling g mk a) = true :=
    Spec.appliesLoose_calling (g := g) h hdg hn hkY hinitY
      (X.room_calling (g := g) (R' := (headSpec ws rm).room) hsize hmY hcY hframes (by rw [hlY]; omega) h4 h5) h1
  obtain ⟨mid, hmid⟩ := h.above
  have hfr : (U.setTop g).frames = (.java g :: mid) ++ below := by rw [State.frames_setTop' g h.top, hmid]; rfl
  obtain ⟨o, s₂, hsteps, -, hend, hq⟩ := Steps.callFree hM p X.admits X.cas X.clock (acts := []) hfr happ hPc trivial
  have hq' : vx_Q Qc XC mc ms free a (U.calling g mk a) o s₂ := hq
  rw [State.frames_setTop' g h.top] at hend
  obtain ⟨g₀, hg0⟩ := Option.isSome_iff_exists.mp h.top
  obtain ⟨r, hr⟩ := State.topJava?_eq_some.mp hg0
  have hr' : (({ U with heap := s₂.heap, slotsUsed := s₂.slotsUsed } : State).setVm s₂.vm).frames = .java g₀ :: r := hr
  rcases hq' with ⟨hqc, L, hfe, hL⟩ | ⟨q, rfl, E, ce, L, hx, hce, hcv, hcl, hW₂, hsm, hL⟩
  · obtain ⟨⟨v, rfl⟩, hW₂, e2, q2, q3, q4, q5, q6⟩ := id hfe
    have e3 : s₂ = ({ (U.calling g mk a).setFrames s₂.frames with heap := s₂.heap, slotsUsed := s₂.slotsUsed } : State).setVm s₂.vm := by
      have : s₂ = ({ s₂ with vm := (U.calling g mk a).vm } : State).setVm s₂.vm := rfl
      rw [e2] at this
      exact this
    obtain ⟨c₂, i₂, len₂, hc₂, hd₂, hf₂⟩ := hend
    have hW' : U.WarmedH s₂.vm := hW₂
    have hcc : c₂ = c := by
      have h1 : s₂.code? g.method = U.code? g.method := by
        rw [State.code?_eq, State.code?_eq, hW'.alike.method?]
      exact Option.some.inj (hc₂.symm.trans (h1.trans h.code))
    subst hcc
    have hlen : len₂ = len := by rw [hdg] at hd₂; cases hd₂; rfl
    subst hlen
    have hs₂ : s₂ = (({ U with heap := s₂.heap, slotsUsed := s₂.slotsUsed } : State).setVm s₂.vm).setTop { g with pc := g.pc + len₂, stack := v.toList ++ g.stack } := by
      refine e3.trans ?_
      rw [hf₂, State.calling_eq h.top, State.setFrames_setFrames, State.setTop_of_frames _ hr', hr]
      rfl
    have hsame : U.sameButNew ({ U with heap := s₂.heap, slotsUsed := s₂.slotsUsed } : State) L mc ms := by
      refine ⟨?_, q2, q3, q4, q5, q6⟩
      obtain ⟨t, ht, -⟩ := State.frames_cons hr
      show ({ U with heap := s₂.heap, slotsUsed := s₂.slotsUsed } : State) = { U.setFrames U.frames with heap := s₂.heap, slotsUsed := s₂.slotsUsed }
      rw [State.setFrames_self ht]
    subst hg
    refine Or.inl ⟨v, ⟨(({ U with heap := s₂.heap, slotsUsed := s₂.slotsUsed } : State).setVm s₂.vm), Ls ++ L, c0 + mc, s0 + ms⟩,
      ⟨X.admits, X.cas, X.clock, X.frames, X.room, X.hears, X.method, X.code, (X.here.setHeapUsed s₂.heap s₂.slotsUsed).setVm hW'.alike, X.tail, State.WarmedH.trans X.warmed hW', X.limits, X.bytes, X.same.trans (hsame.setVm s.vm)⟩,
      ⟨g, mk, s₂, L, rfl, rfl, hqc, rfl, hL, rfl, rfl⟩, ?_⟩
    show Steps p.tables e below _ ((({ U with heap := s₂.heap, slotsUsed := s₂.slotsUsed } : State).setVm s₂.vm).setTop { g with pc := g.pc + len₂, stack := v.toList ++ g.stack })
    rw [← hs₂]
    exact hsteps
  · obtain ⟨e2, q2, q3, q4, q5, q6⟩ := id hsm
    have e3 : s₂ = ({ (U.calling g mk a).setFrames s₂.frames with heap := s₂.heap, slotsUsed := s₂.slotsUsed } : State).setVm s₂.vm := by
      have : s₂ = ({ s₂ with vm := (U.calling g mk a).vm } : State).setVm s₂.vm := rfl
      rw [e2] at this
      exact this
    have hf₂ : s₂.frames = .throwing q :: .java g :: U.frames.tail := hend
    have hW' : U.WarmedH s₂.vm := hW₂
    have hs₂ : s₂ = ((({ U with heap := s₂.heap, slotsUsed := s₂.slotsUsed } : State).setVm s₂.vm).setTop g).pushFrame (.throwing q) := by
      refine e3.trans ?_
      rw [hf₂, State.calling_eq h.top, State.setFrames_setFrames, State.pushFrame, State.frames_setTop _ hr', State.setTop_of_frames _ hr', State.setFrames_setFrames, hr]
      rfl
    have hsame : U.sameButNew ({ U with heap := s₂.heap, slotsUsed := s₂.slotsUsed } : State) L mc ms := by
      refine ⟨?_, q2, q3, q4, q5, q6⟩
      obtain ⟨t, ht, -⟩ := State.frames_cons hr
      show ({ U with heap := s₂.heap, slotsUsed := s₂.slotsUsed } : State) = { U.setFrames U.frames with heap := s₂.heap, slotsUsed := s₂.slotsUsed }
      rw [State.setFrames_self ht]
    subst hg
    refine Or.inr ⟨q, ⟨(({ U with heap := s₂.heap, slotsUsed := s₂.slotsUsed } : State).setVm s₂.vm), Ls ++ L, c0 + mc, s0 + ms⟩,
      ⟨X.admits, X.cas, X.clock, X.frames, X.room, X.hears, X.method, X.code, (X.here.setHeapUsed s₂.heap s₂.slotsUsed).setVm hW'.alike, X.tail, State.WarmedH.trans X.warmed hW', X.limits, X.bytes, X.same.trans (hsame.setVm s.vm)⟩,
      ⟨g, mk, s₂, L, E, ce, rfl, rfl, hx, hce, hcv, hcl, rfl, hL, rfl, rfl⟩, ?_⟩
    show Steps p.tables e below _ (((({ U with heap := s₂.heap, slotsUsed := s₂.slotsUsed } : State).setVm s₂.vm).setTop g).pushFrame (.throwing q))
    rw [← hs₂]
    exact hsteps
end Payer
section Calls
variable {p : Program} {l : Launch} {e : Env} {R : Room} {s : State} {m : MethodId} {args : Array Value} {below : List Frame} {meth : Method} {c : Code} {T : State} {locs : List Loc} {cells slots : Nat}
theorem vx_callV (X : Stand p l e R s m args below meth c T locs cells slots) (hexec : p.tables.exec = Jvm.exec) {own C : String} {index : Nat} {y : MethodName} {bytes : ByteArray} {maxL : Nat} {ret : Option FieldType}
    (hown : s.vm.findClass own = some m.cls) (hlink : (Cond.methodLink own index y).before args s = true) (hinst : (Cond.instanceMethod y).before args s = true) (hsel : (Cond.selects C y y).before args s = true)
    (hcode : (Cond.code y bytes maxL ret).before args s = true) (hy : y.cls ≠ "java/lang/invoke/MethodHandle" ∧ y.cls ≠ "java/lang/invoke/VarHandle")
    {W9 : Nat} {Pre : Pt → Array Value → Prop} {Post : Pt → Array Value → Option Value → Pt → Prop} {PostX : Pt → Array Value → Addr → Pt → Prop} (hK : vx_Back l R p e below s args y 3 W9 Pre Post PostX)
    {b : Addr} {cellB : Cell} (hcell : T.heap[b]? = some cellB) (hobj : cellB.vm.isStatics = false) (hcls : s.vm.findClass C = some cellB.cls)
    {g : JFrame} (hg : g.method = m) (hsize : g.locals.size = c.maxLocals) {argsL rest : List Value} (hlen : ∀ sig, parseMethodDescriptor y.desc = some sig → argsL.length = sig.parameters.length)
    (hstack : g.stack = argsL.reverse ++ .ref b :: rest) (hW : 2 * g.monitorRoom + (rest.map fun v => v.category).sum ≤ W9) (hdg : decode c.code g.pc = .ok (.invokevirtual index, 3))
    (hpre : ∀ vm₁, s.WarmedH vm₁ → Pre ⟨T.setVm vm₁, locs, cells, slots⟩ (Value.ref b :: argsL).toArray) :
    (∃ (v : Option Value) (vm₁ : Vm) (B : Pt), s.WarmedH vm₁ ∧ Stand p l e R s m args below meth c B.U B.locs B.cells B.slots ∧ Post ⟨T.setVm vm₁, locs, cells, slots⟩ (Value.ref b :: argsL).toArray v B ∧
      ∀ target, Steps p.tables e below (B.U.setTop { g with pc := g.pc + 3, stack := v.toList ++ rest }) target → Steps p.tables e below (T.setTop g) target) ∨
    (∃ (q : Addr) (vm₁ : Vm) (B : Pt), s.WarmedH vm₁ ∧ Stand p l e R s m args below meth c B.U B.locs B.cells B.slots ∧ PostX ⟨T.setVm vm₁, locs, cells, slots⟩ (Value.ref b :: argsL).toArray q B ∧
      Steps p.tables e below (T.setTop g) ((B.U.setTop { g with stack := rest }).pushFrame (.throwing q))) := by
  obtain ⟨mk, methM, hnamed, hmethM, hstM, habM⟩ := Cond.instanceMethod_spec hinst
  obtain ⟨methM', cM, hmethM', -, -, -, -, -, -, hsigM⟩ := Cond.code_spec hnamed hcode
  cases hmethM.symm.trans hmethM'
  obtain ⟨c2, r2, m2, q1, q2, q3, q4, kP, hkP, hkPi⟩ := Cond.selects_spec hsel
  cases hcls.symm.trans q1
  cases (State.methodFound?_of_named hnamed hy).symm.trans q2
  cases hnamed.symm.trans q3
  have hselP : selectMethod e.platform s.vm cellB.cls mk = .method mk := by rw [Launch.admits_selectMethod X.admits]; exact q4
  obtain ⟨vm₁, X₁, hstep₁⟩ := X.invokevirtual hexec hown hlink hnamed hmethM hstM hkP hkPi hy (a := b) (cell := cellB) hcell
    (fun z h => by rw [h] at hobj; cases hobj) hselP hmethM habM hkP hkPi (g := g) hg (argsL := argsL) (rest := rest) (hlen _ hsigM) hstack hdg
  rcases hK m meth c ⟨T.setVm vm₁, locs, cells, slots⟩ { g with stack := rest } (.invokevirtual index) mk (Value.ref b :: argsL).toArray X₁ hg hsize hdg hW (X₁.named hnamed) (hpre vm₁ X₁.warmed) with ⟨v, B, X', hpost, hsteps⟩ | ⟨q, B, X', hpost, hsteps⟩
  · exact Or.inl ⟨v, vm₁, B, X₁.warmed, X', hpost, fun target h => hstep₁ _ fun acts => by rw [doInvoke_state]; exact hsteps.trans h⟩
  · exact Or.inr ⟨q, vm₁, B, X₁.warmed, X', hpost, hstep₁ _ fun acts => by rw [doInvoke_state]; exact hsteps⟩
theorem vx_callS (X : Stand p l e R s m args below meth c T locs cells slots) (hexec : p.tables.exec = Jvm.exec) {own : String} {index : Nat} {y : MethodName} {bytes : ByteArray} {maxL : Nat} {ret : Option FieldType}
    (hown : s.vm.findClass own = some m.cls) (hlink : (Cond.methodLink own index y).before args s = true) (hstat : (Cond.static y).before args s = true) (hinit : (Cond.initialized y.cls).before args s = true)
    (hcode : (Cond.code y bytes maxL ret).before args s = true) (hy : y.cls ≠ "java/lang/invoke/MethodHandle" ∧ y.cls ≠ "java/lang/invoke/VarHandle")
    {W9 : Nat} {Pre : Pt → Array Value → Prop} {Post : Pt → Array Value → Option Value → Pt → Prop} {PostX : Pt → Array Value → Addr → Pt → Prop} (hK : vx_Back l R p e below s args y 3 W9 Pre Post PostX)
    {g : JFrame} (hg : g.method = m) (hsize : g.locals.size = c.maxLocals) {argsL rest : List Value} (hlen : ∀ sig, parseMethodDescriptor y.desc = some sig → argsL.length = sig.parameters.length)
    (hstack : g.stack = argsL.reverse ++ rest) (hW : 2 * g.monitorRoom + (rest.map fun v => v.category).sum ≤ W9) (hdg : decode c.code g.pc = .ok (.invokestatic index, 3))
    (hpre : ∀ vm₁, s.WarmedH vm₁ → Pre ⟨T.setVm vm₁, locs, cells, slots⟩ argsL.toArray) :
    (∃ (v : Option Value) (vm₁ : Vm) (B : Pt), s.WarmedH vm₁ ∧ Stand p l e R s m args below meth c B.U B.locs B.cells B.slots ∧ Post ⟨T.setVm vm₁, locs, cells, slots⟩ argsL.toArray v B ∧
      ∀ target, Steps p.tables e below (B.U.setTop { g with pc := g.pc + 3, stack := v.toList ++ rest }) target → Steps p.tables e below (T.setTop g) target) ∨
    (∃ (q : Addr) (vm₁ : Vm) (B : Pt), s.WarmedH vm₁ ∧ Stand p l e R s m args below meth c B.U B.locs B.cells B.slots ∧ PostX ⟨T.setVm vm₁, locs, cells, slots⟩ argsL.toArray q B ∧
      Steps p.tables e below (T.setTop g) ((B.U.setTop { g with stack := rest }).pushFrame (.throwing q))) := by
  obtain ⟨mk, hnamed⟩ := Cond.code_named hcode
  obtain ⟨methM, cM, hmethM, -, -, -, -, -, -, hsigM⟩ := Cond.code_spec hnamed hcode
  have hstatic : methM.isStatic = true := Cond.static_spec hnamed hmethM hstat
  obtain ⟨kP, hkP, -⟩ := className_of_methodNamed hnamed
  have hinitP : kP.init = .initialized := Cond.initialized_spec (findClass_of_methodNamed hnamed) hkP hinit
  obtain ⟨vm₁, X₁, hstep₁⟩ := X.invokestatic hexec hown hlink hnamed hmethM hstatic hkP hinitP hy (g := g) hg (argsL := argsL) (rest := rest) (hlen _ hsigM) hstack hdg
  rcases hK m meth c ⟨T.setVm vm₁, locs, cells, slots⟩ { g with stack := rest } (.invokestatic index) mk argsL.toArray X₁ hg hsize hdg hW (X₁.named hnamed) (hpre vm₁ X₁.warmed) with ⟨v, B, X', hpost, hsteps⟩ | ⟨q, B, X', hpost, hsteps⟩
  · exact Or.inl ⟨v, vm₁, B, X₁.warmed, X', hpost, fun target h => hstep₁ _ fun acts => by rw [doInvoke_state]; exact hsteps.trans h⟩
  · exact Or.inr ⟨q, vm₁, B, X₁.warmed, X', hpost, hstep₁ _ fun acts => by rw [doInvoke_state]; exact hsteps⟩
end Calls
theorem vx_cls {s : State} {T : State} {vm₁ : Vm} {E : String} {k : ClassId} (hW : s.WarmedH vm₁) (h : (T.setVm vm₁).vm.findClass E = some k) : s.vm.findClass E = some k := by
  have h1 : vm₁.findClass E = some k := h
  rw [hW.alike.findClass] at h1
  exact h1
/-- the method's frame g, with q thrown over it -/
def vx_W (p : Program) (l : Launch) (e : Env) (R : Room) (s : State) (m : MethodId) (args : Array Value) (below : List Frame) (meth : Method) (c : Code) (H : Heap) (locs : List Loc) (cells slots : Nat) (Q : State → Prop) (g : JFrame) (q : Addr) : Prop :=
  ∀ T : State, T.heap = H → Stand p l e R s m args below meth c T locs cells slots → ∃ t, Steps p.tables e below ((T.setTop g).pushFrame (.throwing q)) t ∧ Q t
def vx_Run (p : Program) (l : Launch) (e : Env) (R : Room) (s : State) (m : MethodId) (args : Array Value) (below : List Frame) (meth : Method) (c : Code) (H : Heap) (locs : List Loc) (cells slots mc ms : Nat) (g : JFrame) (rest : List Value) (Qa : State → Outcome → State → Prop) (XC : String → State → State → Prop) (free : Addr → Prop) : Prop :=
  ∀ T : State, T.heap = H → Stand p l e R s m args below meth c T locs cells slots →
    (∃ (v : Option Value) (st₀ t T' : State) (L : List Loc), st₀.heap = H ∧ Stand p l e R s m args below meth c T' (locs ++ L) (cells + mc) (slots + ms) ∧ (∀ q ∈ L, free q.base) ∧ T'.heap = t.heap ∧ T'.vm = t.vm ∧ Qa st₀ (.returned v) t ∧
      Goes p e below T g T' { g with pc := g.pc + 3, stack := v.toList ++ rest }) ∨
    (∃ (q : Addr) (st₀ t T' : State) (L : List Loc) (E : String) (ce : Cell), st₀.heap = H ∧ Stand p l e R s m args below meth c T' (locs ++ L) (cells + mc) (slots + ms) ∧ (∀ z ∈ L, free z.base) ∧ T'.heap = t.heap ∧ T'.vm = t.vm ∧ XC E st₀ t ∧ t.heap[q]? = some ce ∧ ce.vm = .none ∧ s.vm.findClass E = some ce.cls ∧
      Steps p.tables e below (T.setTop g) ((T'.setTop { g with stack := rest }).pushFrame (.throwing q)))
def vx_X {S : Type} (px : S → Prop) (B : String → S → State → Prop) (A : Nat → Prop) : String → State → State → Prop := fun E st t => ∃ u : S, px u ∧ B E u t ∧ va_F A st t
section Runs
variable {p : Program} {l : Launch} {e : Env} {R : Room} {s : State} {m : MethodId} {args : Array Value} {below : List Frame} {meth : Method} {c : Code} {H : Heap} {locs : List Loc} {cells slots : Nat}
variable {y : MethodName} {bytes cc : ByteArray} {maxL nL mc ms n index : Nat} {ret : Option FieldType} {ws : List Cond} {rm : Room} {Pc : Array Value → State → Prop} {Qc : Array Value → State → Outcome → State → Prop} {XC : String → State → State → Prop} {free : Addr → Prop} {Ts : List Cond} {own C : String} {b : Addr} {As rest : List Value} {g : JFrame}
theorem vx_callBack (cb : CallB R s args own index y bytes maxL ret ws rm mc ms n) (hM : vx_Met l y ws rm Pc Qc XC mc ms free) (hbl : FrameBlind Pc) : vx_Back l R p e below s args y 3 8 (PreOf R mc ms Pc) (PostOf Qc mc ms free) (vx_Post XC mc ms free) := by
  obtain ⟨hrc, hrs, hfr, hlo, hws, hcw, -, hini, -⟩ := cb
  exact vx_back (bytes := bytes) (maxL := maxL) (ret := ret) hM hbl hrc hrs hfr hlo hws hcw (fun a' U hW => word_at hW (Or.inl (by first | rfl | simp [Cond.onTables, Cond.keeps, Cond.steady])) hini)
theorem vx_runV (S : CallFix p m c cc nL s args Ts own) (hM : vx_Met l y ws rm Pc Qc XC mc ms free) (cw : CallW R s args own C index y bytes maxL ret ws rm mc ms n) (hp : PreV s H C b Pc As)
    (hg : g.method = m) (hn : As.length = n) (hsize : g.locals.size = nL) (hstack : g.stack = As.reverse ++ .ref b :: rest) (hW : 2 * g.monitorRoom + (rest.map fun v => v.category).sum ≤ 8) (hdg : decode cc g.pc = .ok (.invokevirtual index, 3)) (hf : cells + mc ≤ R.cells ∧ slots + ms ≤ R.slots) :
    vx_Run p l e R s m args below meth c H locs cells slots mc ms g rest (Qc (Value.ref b :: As).toArray) XC free := by
  have hK : vx_Back l R p e below s args y 3 8 (PreOf R mc ms Pc) (PostOf Qc mc ms free) (vx_Post XC mc ms free) := vx_callBack cw.1 hM hp.1
  obtain ⟨⟨-, -, -, -, -, -, hcode, -, hy, hlen, hl⟩, hin, hse⟩ := cw
  obtain ⟨hx, hb, hml, ho, -⟩ := S
  obtain ⟨-, ⟨cellB, hcB, hoB, hclB⟩, hPc⟩ := hp
  intro T hT X
  rcases vx_callV X hx (C := C) (bytes := bytes) (maxL := maxL) (ret := ret) ho hl hin hse hcode hy hK (by rw [hT]; exact hcB) hoB hclB hg (hsize.trans hml.symm) (argsL := As) (rest := rest) (fun sig h => hn.trans (hlen sig h)) hstack hW (by rw [hb]; exact hdg)
    (fun vm₁ hW₁ => ⟨hf.1, hf.2, hPc (T.setVm vm₁) hT hW₁⟩) with ⟨v, vm₁, ⟨U', l2, c2, s2⟩, hW₁, X', ⟨g', mk, t, L, e1, e2, hq, h1, hL, h2, h3⟩, st⟩ | ⟨q, vm₁, ⟨U', l2, c2, s2⟩, hW₁, X', ⟨g', mk, t, L, E, ce, e1, e2, hq, hce, hcv, hcl, h1, hL, h2, h3⟩, st⟩
  · dsimp only [Pt.U, Pt.locs, Pt.cells, Pt.slots] at X' e1 e2 h1 h2 h3 st
    subst h1; subst h2; subst h3
    exact Or.inl ⟨v, (T.setVm vm₁).calling g' mk (Value.ref b :: As).toArray, t, U', L, hT, X', hL, e1, e2, hq, st⟩
  · dsimp only [Pt.U, Pt.locs, Pt.cells, Pt.slots] at X' e1 e2 h1 h2 h3 st hcl
    subst h1; subst h2; subst h3
    exact Or.inr ⟨q, (T.setVm vm₁).calling g' mk (Value.ref b :: As).toArray, t, U', L, E, ce, hT, X', hL, e1, e2, hq, hce, hcv, vx_cls hW₁ hcl, st⟩
theorem vx_runS (S : CallFix p m c cc nL s args Ts own) (hM : vx_Met l y ws rm Pc Qc XC mc ms free) (cw : CallB R s args own index y bytes maxL ret ws rm mc ms n ∧ (Cond.static y).before args s = true) (hp : PreS s H Pc As)
    (hg : g.method = m) (hn : As.length = n) (hsize : g.locals.size = nL) (hstack : g.stack = As.reverse ++ rest) (hW : 2 * g.monitorRoom + (rest.map fun v => v.category).sum ≤ 8) (hdg : decode cc g.pc = .ok (.invokestatic index, 3)) (hf : cells + mc ≤ R.cells ∧ slots + ms ≤ R.slots) :
    vx_Run p l e R s m args below meth c H locs cells slots mc ms g rest (Qc As.toArray) XC free := by
  have hK : vx_Back l R p e below s args y 3 8 (PreOf R mc ms Pc) (PostOf Qc mc ms free) (vx_Post XC mc ms free) := vx_callBack cw.1 hM hp.1
  obtain ⟨⟨-, -, -, -, -, -, hcode, hini, hy, hlen, hl⟩, hstt⟩ := cw
  obtain ⟨hx, hb, hml, ho, -⟩ := S
  intro T hT X
  rcases vx_callS X hx (bytes := bytes) (maxL := maxL) (ret := ret) ho hl hstt hini hcode hy hK hg (hsize.trans hml.symm) (argsL := As) (rest := rest) (fun sig h => hn.trans (hlen sig h)) hstack hW (by rw [hb]; exact hdg)
    (fun vm₁ hW₁ => ⟨hf.1, hf.2, hp.2 (T.setVm vm₁) hT hW₁⟩) with ⟨v, vm₁, ⟨U', l2, c2, s2⟩, hW₁, X', ⟨g', mk, t, L, e1, e2, hq, h1, hL, h2, h3⟩, st⟩ | ⟨q, vm₁, ⟨U', l2, c2, s2⟩, hW₁, X', ⟨g', mk, t, L, E, ce, e1, e2, hq, hce, hcv, hcl, h1, hL, h2, h3⟩, st⟩
  · dsimp only [Pt.U, Pt.locs, Pt.cells, Pt.slots] at X' e1 e2 h1 h2 h3 st
    subst h1; subst h2; subst h3
    exact Or.inl ⟨v, (T.setVm vm₁).calling g' mk As.toArray, t, U', L, hT, X', hL, e1, e2, hq, st⟩
  · dsimp only [Pt.U, Pt.locs, Pt.cells, Pt.slots] at X' e1 e2 h1 h2 h3 st hcl
    subst h1; subst h2; subst h3
    exact Or.inr ⟨q, (T.setVm vm₁).calling g' mk As.toArray, t, U', L, E, ce, hT, X', hL, e1, e2, hq, hce, hcv, vx_cls hW₁ hcl, st⟩
end Runs
section Rows
variable {p : Program} {l : Launch} {e : Env} {R : Room} {s : State} {m : MethodId} {args : Array Value} {below : List Frame} {meth : Method} {c : Code} {H : Heap} {locs : List Loc} {cells slots : Nat} {Q : State → Prop}
variable {mc ms : Nat} {free : Addr → Prop} {A0 A1 : Nat → Prop} {H0 : Heap} {a : Array Value} {pc : Nat} {ls : Array Slot} {st0 rest : List Value}
theorem vx_keep {st₀ t T' : State} {L : List Loc} (h0 : st₀.heap = H) (e1 : T'.heap = t.heap) (hS : va_S A0 H0 H locs) (hA : ∀ q, q < H.size → A1 q → A0 q) (hf : ∀ q, free q → A0 q) (hL : ∀ q ∈ L, free q.base) (hF : va_F A1 st₀ t) :
    H.size ≤ T'.heap.size ∧ (∀ q : Nat, q < H.size → ¬ A1 q → T'.heap[q]? = H[q]?) ∧ va_S A0 H0 T'.heap (locs ++ L) := by
  obtain ⟨hz, hk⟩ := hF
  rw [h0] at hz hk
  exact ⟨by rw [e1]; exact hz, fun q h1 h2 => by rw [e1]; exact hk q h1 h2,
    ⟨Nat.le_trans hS.1 (by rw [e1]; exact hz), fun q h1 h2 => by rw [e1, hk q (Nat.lt_of_lt_of_le h1 hS.1) (fun z => h2 (hA q (Nat.lt_of_lt_of_le h1 hS.1) z))]; exact hS.2.1 q h1 h2, fun q hq => by
      rcases List.mem_append.mp hq with h | h
      · exact hS.2.2 q h
      · exact hf _ (hL q h)⟩⟩
theorem vx_calli {S SX : Type} {post : Int32 → S → Prop} {px : SX → Prop} {B : S → State → Prop} {BX : String → SX → State → Prop} {AX : Nat → Prop} (hr : vx_Run p l e R s m args below meth c H locs cells slots mc ms (F0 m pc ls st0) rest (va_Qi post B A1 a) (vx_X px BX AX) free) (hS : va_S A0 H0 H locs) (hA : ∀ q, q < H.size → A1 q → A0 q) (hf : ∀ q, free q → A0 q) (hAX : ∀ q, q < H.size → AX q → A0 q)
    (kx : ∀ (E : String) (ce : Cell) (q9 : Addr) (u : SX) (t : State) (H1 : Heap) (locs1 : List Loc), t.heap = H1 → s.vm.Alike t.vm → px u → BX E u t → H.size ≤ H1.size → (∀ q : Nat, q < H.size → ¬ AX q → H1[q]? = H[q]?) → va_S A0 H0 H1 locs1 → H1[q9]? = some ce → ce.vm = .none → s.vm.findClass E = some ce.cls → vx_W p l e R s m args below meth c H1 locs1 (cells + mc) (slots + ms) Q (F0 m pc ls rest) q9)
    (kk : ∀ (r : Int32) (u : S) (t : State) (H1 : Heap) (locs1 : List Loc), t.heap = H1 → s.vm.Alike t.vm → post r u → B u t → H.size ≤ H1.size → (∀ q : Nat, q < H.size → ¬ A1 q → H1[q]? = H[q]?) → va_S A0 H0 H1 locs1 → W p l e R s m args below meth c H1 locs1 (cells + mc) (slots + ms) Q (F0 m (pc + 3) ls (.int r :: rest))) : W p l e R s m args below meth c H locs cells slots Q (F0 m pc ls st0) := by
  intro T hT X
  rcases hr T hT X with ⟨v, st₀, t, T', L, h0, X', hL, e1, e2, ⟨⟨r, u, hv, hp, hb⟩, hF⟩, st⟩ | ⟨q, st₀, t, T', L, E, ce, h0, X', hL, e1, e2, ⟨u, hp, hb, hF⟩, hce, hcv, hcl, st⟩
  · cases hv
    obtain ⟨k1, k2, k3⟩ := vx_keep h0 e1 hS hA hf hL hF
    obtain ⟨t2, a1, b1⟩ := kk r u t T'.heap (locs ++ L) e1.symm (by rw [← e2]; exact X'.warmed.alike) hp hb k1 k2 k3 T' rfl X'
    exact ⟨t2, st t2 a1, b1⟩
  · obtain ⟨k1, k2, k3⟩ := vx_keep h0 e1 hS hAX hf hL hF
    obtain ⟨t2, a1, b1⟩ := kx E ce q u t T'.heap (locs ++ L) e1.symm (by rw [← e2]; exact X'.warmed.alike) hp hb k1 k2 k3 (by rw [e1]; exact hce) hcv hcl T' rfl X'
    exact ⟨t2, st.trans a1, b1⟩
theorem vx_calll {S SX : Type} {post : Int64 → S → Prop} {px : SX → Prop} {B : S → State → Prop} {BX : String → SX → State → Prop} {AX : Nat → Prop} (hr : vx_Run p l e R s m args below meth c H locs cells slots mc ms (F0 m pc ls st0) rest (va_Ql post B A1 a) (vx_X px BX AX) free) (hS : va_S A0 H0 H locs) (hA : ∀ q, q < H.size → A1 q → A0 q) (hf : ∀ q, free q → A0 q) (hAX : ∀ q, q < H.size → AX q → A0 q)
    (kx : ∀ (E : String) (ce : Cell) (q9 : Addr) (u : SX) (t : State) (H1 : Heap) (locs1 : List Loc), t.heap = H1 → s.vm.Alike t.vm → px u → BX E u t → H.size ≤ H1.size → (∀ q : Nat, q < H.size → ¬ AX q → H1[q]? = H[q]?) → va_S A0 H0 H1 locs1 → H1[q9]? = some ce → ce.vm = .none → s.vm.findClass E = some ce.cls → vx_W p l e R s m args below meth c H1 locs1 (cells + mc) (slots + ms) Q (F0 m pc ls rest) q9)
    (kk : ∀ (r : Int64) (u : S) (t : State) (H1 : Heap) (locs1 : List Loc), t.heap = H1 → s.vm.Alike t.vm → post r u → B u t → H.size ≤ H1.size → (∀ q : Nat, q < H.size → ¬ A1 q → H1[q]? = H[q]?) → va_S A0 H0 H1 locs1 → W p l e R s m args below meth c H1 locs1 (cells + mc) (slots + ms) Q (F0 m (pc + 3) ls (.long r :: rest))) : W p l e R s m args below meth c H locs cells slots Q (F0 m pc ls st0) := by
  intro T hT X
  rcases hr T hT X with ⟨v, st₀, t, T', L, h0, X', hL, e1, e2, ⟨⟨r, u, hv, hp, hb⟩, hF⟩, st⟩ | ⟨q, st₀, t, T', L, E, ce, h0, X', hL, e1, e2, ⟨u, hp, hb, hF⟩, hce, hcv, hcl, st⟩
  · cases hv
    obtain ⟨k1, k2, k3⟩ := vx_keep h0 e1 hS hA hf hL hF
    obtain ⟨t2, a1, b1⟩ := kk r u t T'.heap (locs ++ L) e1.symm (by rw [← e2]; exact X'.warmed.alike) hp hb k1 k2 k3 T' rfl X'
    exact ⟨t2, st t2 a1, b1⟩
  · obtain ⟨k1, k2, k3⟩ := vx_keep h0 e1 hS hAX hf hL hF
    obtain ⟨t2, a1, b1⟩ := kx E ce q u t T'.heap (locs ++ L) e1.symm (by rw [← e2]; exact X'.warmed.alike) hp hb k1 k2 k3 (by rw [e1]; exact hce) hcv hcl T' rfl X'
    exact ⟨t2, st.trans a1, b1⟩
theorem vx_callf {S SX : Type} {post : UInt32 → S → Prop} {px : SX → Prop} {B : S → State → Prop} {BX : String → SX → State → Prop} {AX : Nat → Prop} (hr : vx_Run p l e R s m args below meth c H locs cells slots mc ms (F0 m pc ls st0) rest (va_Qf post B A1 a) (vx_X px BX AX) free) (hS : va_S A0 H0 H locs) (hA : ∀ q, q < H.size → A1 q → A0 q) (hf : ∀ q, free q → A0 q) (hAX : ∀ q, q < H.size → AX q → A0 q)
    (kx : ∀ (E : String) (ce : Cell) (q9 : Addr) (u : SX) (t : State) (H1 : Heap) (locs1 : List Loc), t.heap = H1 → s.vm.Alike t.vm → px u → BX E u t → H.size ≤ H1.size → (∀ q : Nat, q < H.size → ¬ AX q → H1[q]? = H[q]?) → va_S A0 H0 H1 locs1 → H1[q9]? = some ce → ce.vm = .none → s.vm.findClass E = some ce.cls → vx_W p l e R s m args below meth c H1 locs1 (cells + mc) (slots + ms) Q (F0 m pc ls rest) q9)
    (kk : ∀ (r : UInt32) (u : S) (t : State) (H1 : Heap) (locs1 : List Loc), t.heap = H1 → s.vm.Alike t.vm → post r u → B u t → H.size ≤ H1.size → (∀ q : Nat, q < H.size → ¬ A1 q → H1[q]? = H[q]?) → va_S A0 H0 H1 locs1 → W p l e R s m args below meth c H1 locs1 (cells + mc) (slots + ms) Q (F0 m (pc + 3) ls (.float r :: rest))) : W p l e R s m args below meth c H locs cells slots Q (F0 m pc ls st0) := by
  intro T hT X
  rcases hr T hT X with ⟨v, st₀, t, T', L, h0, X', hL, e1, e2, ⟨⟨r, u, hv, hp, hb⟩, hF⟩, st⟩ | ⟨q, st₀, t, T', L, E, ce, h0, X', hL, e1, e2, ⟨u, hp, hb, hF⟩, hce, hcv, hcl, st⟩
  · cases hv
    obtain ⟨k1, k2, k3⟩ := vx_keep h0 e1 hS hA hf hL hF
    obtain ⟨t2, a1, b1⟩ := kk r u t T'.heap (locs ++ L) e1.symm (by rw [← e2]; exact X'.warmed.alike) hp hb k1 k2 k3 T' rfl X'
    exact ⟨t2, st t2 a1, b1⟩
  · obtain ⟨k1, k2, k3⟩ := vx_keep h0 e1 hS hAX hf hL hF
    obtain ⟨t2, a1, b1⟩ := kx E ce q u t T'.heap (locs ++ L) e1.symm (by rw [← e2]; exact X'.warmed.alike) hp hb k1 k2 k3 (by rw [e1]; exact hce) hcv hcl T' rfl X'
    exact ⟨t2, st.trans a1, b1⟩
theorem vx_calld {S SX : Type} {post : UInt64 → S → Prop} {px : SX → Prop} {B : S → State → Prop} {BX : String → SX → State → Prop} {AX : Nat → Prop} (hr : vx_Run p l e R s m args below meth c H locs cells slots mc ms (F0 m pc ls st0) rest (va_Qd post B A1 a) (vx_X px BX AX) free) (hS : va_S A0 H0 H locs) (hA : ∀ q, q < H.size → A1 q → A0 q) (hf : ∀ q, free q → A0 q) (hAX : ∀ q, q < H.size → AX q → A0 q)
    (kx : ∀ (E : String) (ce : Cell) (q9 : Addr) (u : SX) (t : State) (H1 : Heap) (locs1 : List Loc), t.heap = H1 → s.vm.Alike t.vm → px u → BX E u t → H.size ≤ H1.size → (∀ q : Nat, q < H.size → ¬ AX q → H1[q]? = H[q]?) → va_S A0 H0 H1 locs1 → H1[q9]? = some ce → ce.vm = .none → s.vm.findClass E = some ce.cls → vx_W p l e R s m args below meth c H1 locs1 (cells + mc) (slots + ms) Q (F0 m pc ls rest) q9)
    (kk : ∀ (r : UInt64) (u : S) (t : State) (H1 : Heap) (locs1 : List Loc), t.heap = H1 → s.vm.Alike t.vm → post r u → B u t → H.size ≤ H1.size → (∀ q : Nat, q < H.size → ¬ A1 q → H1[q]? = H[q]?) → va_S A0 H0 H1 locs1 → W p l e R s m args below meth c H1 locs1 (cells + mc) (slots + ms) Q (F0 m (pc + 3) ls (.double r :: rest))) : W p l e R s m args below meth c H locs cells slots Q (F0 m pc ls st0) := by
  intro T hT X
  rcases hr T hT X with ⟨v, st₀, t, T', L, h0, X', hL, e1, e2, ⟨⟨r, u, hv, hp, hb⟩, hF⟩, st⟩ | ⟨q, st₀, t, T', L, E, ce, h0, X', hL, e1, e2, ⟨u, hp, hb, hF⟩, hce, hcv, hcl, st⟩
  · cases hv
    obtain ⟨k1, k2, k3⟩ := vx_keep h0 e1 hS hA hf hL hF
    obtain ⟨t2, a1, b1⟩ := kk r u t T'.heap (locs ++ L) e1.symm (by rw [← e2]; exact X'.warmed.alike) hp hb k1 k2 k3 T' rfl X'
    exact ⟨t2, st t2 a1, b1⟩
  · obtain ⟨k1, k2, k3⟩ := vx_keep h0 e1 hS hAX hf hL hF
    obtain ⟨t2, a1, b1⟩ := kx E ce q u t T'.heap (locs ++ L) e1.symm (by rw [← e2]; exact X'.warmed.alike) hp hb k1 k2 k3 (by rw [e1]; exact hce) hcv hcl T' rfl X'
    exact ⟨t2, st.trans a1, b1⟩
theorem vx_callv {S SX : Type} {post : S → Prop} {px : SX → Prop} {B : S → State → Prop} {BX : String → SX → State → Prop} {AX : Nat → Prop} (hr : vx_Run p l e R s m args below meth c H locs cells slots mc ms (F0 m pc ls st0) rest (va_Qv post B A1 a) (vx_X px BX AX) free) (hS : va_S A0 H0 H locs) (hA : ∀ q, q < H.size → A1 q → A0 q) (hf : ∀ q, free q → A0 q) (hAX : ∀ q, q < H.size → AX q → A0 q)
    (kx : ∀ (E : String) (ce : Cell) (q9 : Addr) (u : SX) (t : State) (H1 : Heap) (locs1 : List Loc), t.heap = H1 → s.vm.Alike t.vm → px u → BX E u t → H.size ≤ H1.size → (∀ q : Nat, q < H.size → ¬ AX q → H1[q]? = H[q]?) → va_S A0 H0 H1 locs1 → H1[q9]? = some ce → ce.vm = .none → s.vm.findClass E = some ce.cls → vx_W p l e R s m args below meth c H1 locs1 (cells + mc) (slots + ms) Q (F0 m pc ls rest) q9)
    (kk : ∀ (u : S) (t : State) (H1 : Heap) (locs1 : List Loc), t.heap = H1 → s.vm.Alike t.vm → post u → B u t → H.size ≤ H1.size → (∀ q : Nat, q < H.size → ¬ A1 q → H1[q]? = H[q]?) → va_S A0 H0 H1 locs1 → W p l e R s m args below meth c H1 locs1 (cells + mc) (slots + ms) Q (F0 m (pc + 3) ls (rest))) : W p l e R s m args below meth c H locs cells slots Q (F0 m pc ls st0) := by
  intro T hT X
  rcases hr T hT X with ⟨v, st₀, t, T', L, h0, X', hL, e1, e2, ⟨⟨u, hv, hp, hb⟩, hF⟩, st⟩ | ⟨q, st₀, t, T', L, E, ce, h0, X', hL, e1, e2, ⟨u, hp, hb, hF⟩, hce, hcv, hcl, st⟩
  · cases hv
    obtain ⟨k1, k2, k3⟩ := vx_keep h0 e1 hS hA hf hL hF
    obtain ⟨t2, a1, b1⟩ := kk u t T'.heap (locs ++ L) e1.symm (by rw [← e2]; exact X'.warmed.alike) hp hb k1 k2 k3 T' rfl X'
    exact ⟨t2, st t2 a1, b1⟩
  · obtain ⟨k1, k2, k3⟩ := vx_keep h0 e1 hS hAX hf hL hF
    obtain ⟨t2, a1, b1⟩ := kx E ce q u t T'.heap (locs ++ L) e1.symm (by rw [← e2]; exact X'.warmed.alike) hp hb k1 k2 k3 (by rw [e1]; exact hce) hcv hcl T' rfl X'
    exact ⟨t2, st.trans a1, b1⟩
/-- caught by the row x of this method's table; the rows ahead don't take it -/
theorem vx_catch {own name : String} {E : String} {ce : Cell} {q : Addr} (hown : s.vm.findClass own = some m.cls) (pre : List ExceptionTableEntry) (x : ExceptionTableEntry) (suf : List ExceptionTableEntry) (hsplit : c.exceptionTable.toList = pre ++ x :: suf)
    (hpass : ∀ z ∈ pre, covers z pc = false ∨ (z.catchType ≠ 0 ∧ ∃ nm : String, (Cond.classLink own z.catchType nm).before args s = true ∧ va_Nc E nm s)) (hx : covers x pc = true) (h0 : x.catchType ≠ 0)
    (hlink : (Cond.classLink own x.catchType name).before args s = true) (hcast : (Cond.castable E name).before args s = true) (hcell : H[q]? = some ce) (hv : ce.vm = .none) (hcl : s.vm.findClass E = some ce.cls)
    (kk : W p l e R s m args below meth c H locs cells slots Q (F0 m x.handlerPc ls [.ref q])) : vx_W p l e R s m args below meth c H locs cells slots Q (F0 m pc ls rest) q := by
  intro T hT X
  have hpl : e.platform.magicAccessors = ({} : Platform).magicAccessors := by rw [X.admits.platform]
  obtain ⟨c3, c4, hc3, hc4, hasg⟩ := Cond.castable_spec hcast
  cases Option.some.inj (hc3.symm.trans hcl)
  obtain ⟨c5, hc5, hcl5⟩ := Cond.classLink_spec hown hlink e.platform hpl
  cases Option.some.inj (hc4.symm.trans hc5)
  obtain ⟨vm', X', st⟩ := X.thenCaughtThrough q (g := F0 m pc ls rest) rfl (Steps.refl _) (by rw [hT]; exact hcell) (by rw [hv]; rfl) (by obtain ⟨k9, h9, -⟩ := Vm.findClass_spec hcl; exact ⟨k9, h9⟩) pre x suf hsplit
    (fun z hz => by
      rcases hpass z hz with h | ⟨hz0, nm, hl1, hn1⟩
      · exact Or.inl h
      · obtain ⟨c6, hc6, hcl6⟩ := Cond.classLink_spec hown hl1 e.platform hpl
        obtain ⟨a8, b8, h1, h2, h3⟩ := hn1
        cases Option.some.inj (h1.symm.trans hcl)
        cases Option.some.inj (h2.symm.trans hc6)
        exact Or.inr ⟨hz0, _, hcl6, h3⟩) hx (Or.inr ⟨h0, c4, hcl5, hasg⟩)
  obtain ⟨t, a1, b1⟩ := kk (T.setVm vm') hT X'
  exact ⟨t, st.trans a1, b1⟩
end Rows
section Ends
variable {p : Program} {l : Launch} {e : Env} {R : Room} {s : State} {m : MethodId} {args : Array Value} {below : List Frame} {meth : Method} {c : Code} {H : Heap} {locs : List Loc} {cells slots : Nat} {Q : State → Prop}
variable {mc ms : Nat} {free : Addr → Prop} {A0 A1 : Nat → Prop} {H0 : Heap} {a : Array Value} {ls : Array Slot} {st0 rest : List Value}
variable {Qc : Array Value → State → Outcome → State → Prop} {XC : String → State → State → Prop}
/-- what a body that may throw owes at its end -/
def vx_MQ (below : List Frame) (Qc : Array Value → State → Outcome → State → Prop) (XC : String → State → State → Prop) (a : Array Value) (s : State) (mc ms : Nat) (free : Addr → Prop) : State → Prop := fun t =>
  ∃ o, t.status = .running ∧ Ended t below o ∧ vx_Q Qc XC mc ms free a s o t
theorem vx_ret {g : JFrame} {mc ms : Nat} (k : W p l e R s m args below meth c H locs cells slots (MQ below Qc args s mc ms free) g) : W p l e R s m args below meth c H locs cells slots (vx_MQ below Qc XC args s mc ms free) g := by
  intro T hT X
  obtain ⟨t, a1, o, b1, b2, b3, b4⟩ := k T hT X
  exact ⟨t, a1, o, b1, b2, Or.inl ⟨b3, b4⟩⟩
/-- not caught here: it goes on to the caller -/
theorem vx_widen {g : JFrame} {q : Addr} {k n : Nat} (h1 : cells ≤ k) (h2 : slots ≤ n) (kk : vx_W p l e R s m args below meth c H locs k n Q g q) : vx_W p l e R s m args below meth c H locs cells slots Q g q := fun T hT X => kk T hT (stand_widen X h1 h2)
theorem vx_out {pc : Nat} {E : String} {ce : Cell} {q : Addr} {mc ms : Nat} (hout : ∀ x ∈ c.exceptionTable.toList, covers x pc = false) (hlocks : meth.locks = false) (hcell : H[q]? = some ce) (hv : ce.vm = .none) (hcl : s.vm.findClass E = some ce.cls)
    (hx : ∀ t : State, t.heap = H → s.vm.Alike t.vm → XC E s t) (hf : ∀ z ∈ locs, free z.base) (hc : cells ≤ mc) (hs : slots ≤ ms) :
    vx_W p l e R s m args below meth c H locs cells slots (vx_MQ below Qc XC args s mc ms free) (F0 m pc ls rest) q := by
  intro T hT X
  obtain ⟨st1, hrun, hend, hW, hsm⟩ := X.leaveThrown q (g := F0 m pc ls rest) rfl rfl rfl hout hlocks
  have hcell9 : (T.setFrames (.throwing q :: below)).heap[q]? = some ce := by
    show T.heap[q]? = some ce
    rw [hT]; exact hcell
  exact ⟨_, st1, .threw q, hrun, hend, Or.inr ⟨q, rfl, E, ce, locs, hx _ hT hW.alike, hcell9, hv, hcl, hW, hsm.mono hc hs, hf⟩⟩
theorem vx_frame {U : State} {k n : Nat} (h : s.sameButNew ({ U with vm := s.vm } : State) locs k n) : s.heap.size ≤ U.heap.size ∧ ∀ q : Nat, q < s.heap.size → (∀ z ∈ locs, z.base ≠ q) → U.heap[q]? = s.heap[q]? := by
  obtain ⟨-, h2, -, -, -, h6⟩ := h
  refine ⟨h2, fun q hq hz => ?_⟩
  obtain ⟨c9, e1, e2, e3, e4⟩ := h6 q _ (Array.getElem?_eq_getElem hq)
  have hs : c9.slots = (s.heap[q]).slots := Array.ext_getElem? fun i => e4 i fun hm => hz _ hm rfl
  have h9 : c9 = s.heap[q] := by
    rw [hs] at e2
    exact e2
  have e5 : U.heap[q]? = some c9 := e1
  rw [e5, h9, Array.getElem?_eq_getElem hq]
/-- the words of a throw but the four that speak of the heap -/
def vx_no (w : Cond) : Bool := decide (w ≠ .isRef (.static Bundle.tN "UNASSIGNED_STACK" Bundle.steD)) && decide (w ≠ .isRef (.static Bundle.tN "SUPPRESSED_SENTINEL" Bundle.listD)) && decide (w ≠ .laysStatic Bundle.tN "UNASSIGNED_STACK" Bundle.steD) && decide (w ≠ .laysStatic Bundle.tN "SUPPRESSED_SENTINEL" Bundle.listD)
def vx_at0 (own : String) (ic : Nat) (X : String) (names : List String) : List Cond := (Bundle.ownAtoms0 own ic X names).filter vx_no
def vx_atS (own : String) (ic : Nat) (X : String) (names : List String) : List Cond := (Bundle.ownAtoms own ic X names).filter vx_no
/-- a word that the tables alone decide, or a good one -/
def vx_ot (w : Cond) : Bool := w.onTables || goodWord w
theorem vx_ot_at {args a' : Array Value} {s U : State} {w : Cond} (hW : s.WarmedH U.vm) (hvm : s.vm = U.vm) (hg : vx_ot w = true) (h : w.before args s = true) : w.before a' U = true := by
  simp only [vx_ot, Bool.or_eq_true] at hg
  rcases hg with hg | hg
  · exact va_tabs hg hvm h
  · exact word_at hW (good_of_word hg) h
/-- a list's words: the good ones out of the method's own list, the others by premises of their own -/
theorem vx_hat {args : Array Value} {s : State} {L B : List Cond} (h1 : ∀ w ∈ L.filter goodWord, w.before args s = true) (h2 : ∀ w ∈ L.filter (fun w => !goodWord w), w ∈ B) (h3 : ∀ w ∈ B, w.before args s = true) : ∀ w ∈ L, w.before args s = true := by
  intro w hw
  by_cases g : goodWord w = true
  · exact h1 w (List.mem_filter.mpr ⟨hw, g⟩)
  · refine h3 w (h2 w (List.mem_filter.mpr ⟨hw, ?_⟩))
    show (!goodWord w) = true
    cases hgw : goodWord w
    · rfl
    · exact absurd hgw g
theorem vx_c {args : Array Value} {s : State} {w : Cond} {B : List Cond} (h : w.before args s = true) (t : ∀ w ∈ B, w.before args s = true) : ∀ w' ∈ w :: B, w'.before args s = true := fun w' h' => (List.mem_cons.mp h').elim (fun e => by rw [e]; exact h) (t w')
theorem vx_n {args : Array Value} {s : State} : ∀ w ∈ ([] : List Cond), w.before args s = true := fun _ h => nomatch h
theorem vx_own {args : Array Value} {s : State} {L : List Cond} (h1 : ∀ w ∈ L.filter vx_no, w.before args s = true)
    (hU : (Cond.isRef (.static Bundle.tN "UNASSIGNED_STACK" Bundle.steD)).before args s = true) (hN : (Cond.isRef (.static Bundle.tN "SUPPRESSED_SENTINEL" Bundle.listD)).before args s = true)
    (lU : (Cond.laysStatic Bundle.tN "UNASSIGNED_STACK" Bundle.steD).before args s = true) (lN : (Cond.laysStatic Bundle.tN "SUPPRESSED_SENTINEL" Bundle.listD).before args s = true) : ∀ w ∈ L, w.before args s = true := by
  intro w hw
  by_cases e1 : w = .isRef (.static Bundle.tN "UNASSIGNED_STACK" Bundle.steD)
  · rw [e1]; exact hU
  · by_cases e2 : w = .isRef (.static Bundle.tN "SUPPRESSED_SENTINEL" Bundle.listD)
    · rw [e2]; exact hN
    · by_cases e3 : w = .laysStatic Bundle.tN "UNASSIGNED_STACK" Bundle.steD
      · rw [e3]; exact lU
      · by_cases e4 : w = .laysStatic Bundle.tN "SUPPRESSED_SENTINEL" Bundle.listD
        · rw [e4]; exact lN
        · exact h1 w (List.mem_filter.mpr ⟨hw, by unfold vx_no; rw [decide_eq_true e1, decide_eq_true e2, decide_eq_true e3, decide_eq_true e4]; rfl⟩)
/-- where a static field lies, its class's statics cell in H -/
def vx_L (C n d : String) (A : Nat → Prop) (U : State) (H : Heap) : Prop := ∃ (c : ClassId) (k : Class) (i : Nat) (f : Field) (a : Nat) (cell : Cell), U.vm.findClass C = some c ∧ U.fieldFound? C n d = some (c, k, i, f) ∧ f.isStatic = true ∧ k.statics = some a ∧ H[a]? = some cell ∧ cell.vm.isStatics = true ∧ cell.cls = c ∧ f.slot < cell.slots.size ∧ k.staticTypes[f.slot]? = some f.type ∧ ¬ A a
theorem vx_L.moved {C n d : String} {A : Nat → Prop} {u U : State} {H : Heap} (hvm : u.vm.Alike U.vm) (h : vx_L C n d A u H) : vx_L C n d A U H := by
  obtain ⟨c, k, i, f, a, cell, h1, h2, h3, h4, h5, h6, h7, h8, h9, h10⟩ := h
  obtain ⟨k', hi', he⟩ := State.fieldFound?_setVm hvm h2
  exact ⟨c, k', i, f, a, cell, by rw [hvm.findClass]; exact h1, hi', h3, by rw [he]; exact h4, h5, h6, h7, h8, by rw [he]; exact h9, h10⟩
theorem vx_L.kept {C n d : String} {A : Nat → Prop} {U : State} {H H1 : Heap} (h : vx_L C n d A U H) (hq : ∀ a : Nat, a < H.size → ¬ A a → H1[a]? = H[a]?) : vx_L C n d A U H1 := by
  obtain ⟨c, k, i, f, a, cell, h1, h2, h3, h4, h5, h6, h7, h8, h9, h10⟩ := h
  exact ⟨c, k, i, f, a, cell, h1, h2, h3, h4, by rw [hq a (Array.getElem?_eq_some_iff.mp h5).1 h10]; exact h5, h6, h7, h8, h9, h10⟩
theorem vx_L.narrow {C n d : String} {A B : Nat → Prop} {U : State} {H : Heap} (h : vx_L C n d A U H) (hAB : ∀ q, B q → A q) : vx_L C n d B U H := by
  obtain ⟨c, k, i, f, a, cell, h1, h2, h3, h4, h5, h6, h7, h8, h9, h10⟩ := h
  exact ⟨c, k, i, f, a, cell, h1, h2, h3, h4, h5, h6, h7, h8, h9, fun z => h10 (hAB _ z)⟩
theorem vx_L.word {C n d : String} {A : Nat → Prop} {s : State} {args : Array Value} (h : vx_L C n d A s s.heap) : (Cond.laysStatic C n d).before args s = true := by
  obtain ⟨c, k, i, f, a, cell, h1, h2, h3, h4, h5, h6, h7, h8, h9, -⟩ := h
  show (Cond.laysStatic C n d).holds args s none s [] = true
  exact Cond.laysStatic_of h1 h2 h3 h4 h5 h6 h7 h8 h9
/-- .. and what it holds: null or some reference -/
def vx_Zq (C n d : String) (A : Nat → Prop) (U : State) (H : Heap) : Prop := va_Zq C n d A U H ∧ vx_L C n d A U H
theorem vx_Zq.moved {C n d : String} {A : Nat → Prop} {u U : State} {H : Heap} (hvm : u.vm.Alike U.vm) (h : vx_Zq C n d A u H) : vx_Zq C n d A U H := ⟨va_Zq.moved hvm h.1, vx_L.moved hvm h.2⟩
theorem vx_Zq.kept {C n d : String} {A : Nat → Prop} {U : State} {H H1 : Heap} (h : vx_Zq C n d A U H) (hq : ∀ a : Nat, a < H.size → ¬ A a → H1[a]? = H[a]?) : vx_Zq C n d A U H1 := ⟨va_Zq.kept h.1 hq, vx_L.kept h.2 hq⟩
theorem vx_Zq.narrow {C n d : String} {A B : Nat → Prop} {U : State} {H : Heap} (h : vx_Zq C n d A U H) (hAB : ∀ q, B q → A q) : vx_Zq C n d B U H := ⟨va_Zq.narrow h.1 hAB, vx_L.narrow h.2 hAB⟩
theorem vx_Zqof {args : Array Value} {s : State} {C n d : String} {A : Nat → Prop} (hl : (Cond.laysStatic C n d).before args s = true) (hini : (Cond.initialized C).before args s = true) (h : (Cond.isRef (.static C n d)).before args s = true) (hA : ∀ a : Nat, a < s.heap.size → ¬ A a) : vx_Zq C n d A s s.heap := by
  refine ⟨va_Zqof hl hini h hA, ?_⟩
  obtain ⟨c, k, i, f, a, cell, h1, h2, h3, h4, h5, h6, h7, h8, h9⟩ := Cond.laysStatic_spec hl
  exact ⟨c, k, i, f, a, cell, h1, h2, h3, h4, h5, h6, h7, h8, h9, hA a (Array.getElem?_eq_some_iff.mp h5).1⟩
theorem vx_isRef {C n d : String} {v : Value} {A : Nat → Prop} {s : State} {args : Array Value} (h : va_Z C n d v A s s.heap) (hv : v.isRef = true) : (Cond.isRef (.static C n d)).before args s = true := by
  obtain ⟨cf, kf, fi, f, a, cell, h1, h2, h3, h4, h5, h6, h7, -⟩ := h
  have he : (Term.static C n d).eval args s none [] s = some v := by
    simp [Term.eval, State.fieldNamed?, h1, h2, h4, h5, h6, h7]
  simp only [Cond.before, Cond.holds, Cond.value, he]
  cases v <;> simp_all [Value.isRef]
theorem vx_isRefq {C n d : String} {A : Nat → Prop} {s : State} {args : Array Value} (h : va_Zq C n d A s s.heap) : (Cond.isRef (.static C n d)).before args s = true := by
  rcases h with h | ⟨t, h⟩
  · exact vx_isRef h rfl
  · exact vx_isRef h rfl
/-- the same frame, seen from here: as if the method were called anew in this heap -/
theorem vx_rebase {T : State} (X : Stand p l e R s m args below meth c T locs cells slots) {R' : Room} (hf : R'.frames ≤ R.frames) (hl : R'.locals ≤ R.locals) (hc : cells + R'.cells ≤ R.cells) (hs : slots + R'.slots ≤ R.slots) :
    Stand p l e R' ((T.setVm s.vm).setFrames (.invoking m args :: below)) m args below meth c T [] 0 0 := by
  have htop : (T.setVm s.vm).topJava?.isSome := X.here.top
  have hF : ((T.setVm s.vm).setFrames (.invoking m args :: below)).frames = .invoking m args :: below := State.frames_setFrames _ (State.cur_lt_of_top htop)
  obtain ⟨g₀, hg0⟩ := Option.isSome_iff_exists.mp htop
  obtain ⟨r, hr⟩ := State.topJava?_eq_some.mp hg0
  have hl9 : e.platform.stackLimits (T.setVm s.vm).me = e.platform.stackLimits s.me := X.limits
  have hb9 : (T.setVm s.vm).me.stackBytes = s.me.stackBytes := X.bytes
  refine ⟨X.admits, X.cas, X.clock, hF, ?_, X.hears, X.method, X.code, X.here, X.tail, X.warmed, ?_, ?_, ?_⟩
  · have h := X.room
    have hU : ((T.setVm s.vm).setFrames (.invoking m args :: below)).localsInUse = s.localsInUse := by
      rw [State.localsInUse_invoking hF (meth := meth) (c := c) X.method X.code, State.localsInUse_invoking X.frames X.method X.code]
    simp only [State.hasRoom, Bool.and_eq_true, decide_eq_true_eq] at h ⊢
    obtain ⟨⟨⟨⟨h1, h2, h3, h4, h5, h6⟩, h7⟩, h8⟩, h9⟩ := h
    rw [X.frames, List.length_cons] at h2 h3
    have q1 := X.heapSize
    have q2 := X.used
    simp only [hF, hU, List.length_cons, State.stackLimits_setFrames, State.stackBytes_setFrames, hl9, hb9]
    refine ⟨⟨⟨⟨by omega, by omega, by omega, by omega, by omega, h6⟩, ?_⟩, ?_⟩, X.book⟩
    · show T.heap.size + R'.cells ≤ e.platform.maxCells
      omega
    · show T.slotsUsed + R'.slots ≤ e.platform.maxSlots
      omega
  · rw [State.stackLimits_setFrames]; rfl
  · rw [State.stackBytes_setFrames]; rfl
  · refine ⟨?_, Nat.le_refl _, Nat.le_refl _, ?_, ?_, fun a c9 h9 => ⟨c9, h9, rfl, rfl, fun _ _ => rfl⟩⟩
    · obtain ⟨t, ht, -⟩ := State.frames_cons hr
      show T.setVm s.vm = { ((T.setVm s.vm).setFrames (.invoking m args :: below)).setFrames (T.setVm s.vm).frames with heap := T.heap, slotsUsed := T.slotsUsed }
      rw [State.setFrames_setFrames, State.setFrames_self ht]
      rfl
    · show T.slotsUsed = T.slotsUsed + ((T.heap.toList.drop T.heap.size).map (·.slots.size)).sum
      rw [List.drop_eq_nil_of_le (Nat.le_of_eq Array.length_toList)]
      rfl
    · show ((T.heap.toList.drop T.heap.size).map (·.slots.size)).sum ≤ 0
      rw [List.drop_eq_nil_of_le (Nat.le_of_eq Array.length_toList)]
      exact Nat.le_refl _
/-- 'throw new E()': new; dup; invokespecial; athrow -/
theorem vx_throw0 {cc : ByteArray} {pc : Nat} (hexec : p.tables.exec = Jvm.exec) (hb : c.code = cc) (hl : l.stackTraces = false) {own cls : String} {names : List String} {ik ic mc ms : Nat} {A : Nat → Prop}
    (hown : s.vm.findClass own = some m.cls) (hcls : Bundle.fit cls = true) (hnames : ∀ n ∈ names, Bundle.fit n = true)
    (hk : (Cond.classLink own ik cls).before args s = true) (hini : (Cond.initialized cls).before args s = true) (hat : ∀ w ∈ vx_at0 own ic cls names, w.before args s = true)
    (hgood : ∀ w ∈ Cond.classLink own ik cls :: Cond.initialized cls :: vx_at0 own ic cls names, vx_ot w = true)
    (hU : vx_Zq Bundle.tN "UNASSIGNED_STACK" Bundle.steD A s s.heap) (hN : vx_Zq Bundle.tN "SUPPRESSED_SENTINEL" Bundle.listD A s s.heap) (hS : va_S A s.heap H locs) (hsize : ls.size = c.maxLocals)
    (d0 : decode cc pc = .ok (.new ik, 3)) (d3 : decode cc (pc + 3) = .ok (.dup, 1)) (d4 : decode cc (pc + 4) = .ok (.invokespecial ic, 3)) (d7 : decode cc (pc + 7) = .ok (.athrow, 1))
    (hout : ∀ x ∈ c.exceptionTable.toList, covers x (pc + 7) = false)
    (hRframes : names.length + 3 < R.frames) (hRlocals : (rest.map fun v => v.category).sum + (13 * (names.length + 1) + 42) ≤ R.locals) (hRcells : cells + 1 ≤ R.cells) (hRslots : slots + 6 ≤ R.slots) (hlocks : meth.locks = false)
    (hx : ∀ t : State, s.vm.Alike t.vm → H.size ≤ t.heap.size → (∀ q : Nat, q < H.size → t.heap[q]? = H[q]?) → XC cls s t)
    (hf : ∀ z ∈ locs, free z.base) (hc : cells + 1 ≤ mc) (hs : slots + 6 ≤ ms) :
    W p l e R s m args below meth c H locs cells slots (vx_MQ below Qc XC args s mc ms free) (F0 m pc ls rest) := by
  intro T hT X
  have htr : e.platform.stackTraces = false := (show e.platform.stackTraces = l.stackTraces by rw [X.admits.platform]).trans hl
  have Y := vx_rebase X (R' := { frames := R.frames, locals := R.locals, cells := 1, slots := 6 }) (Nat.le_refl _) (Nat.le_refl _) hRcells hRslots
  obtain ⟨s', hA⟩ : ∃ z, z = (T.setVm s.vm).setFrames (.invoking m args :: below) := ⟨_, rfl⟩
  rw [← hA] at Y
  have hvm : s'.vm = s.vm := by rw [hA]; rfl
  have hhp : s'.heap = H := by rw [hA]; exact hT
  have hW0 : s.WarmedH s'.vm := by rw [hvm]; exact State.WarmedH.refl s
  have hat' : ∀ w ∈ vx_at0 own ic cls names, w.before args s' = true := fun w hw => vx_ot_at hW0 hvm.symm (hgood w (List.mem_cons_of_mem _ (List.mem_cons_of_mem _ hw))) (hat w hw)
  have hk' : (Cond.classLink own ik cls).before args s' = true := vx_ot_at hW0 hvm.symm (hgood _ List.mem_cons_self) hk
  have hini' : (Cond.initialized cls).before args s' = true := vx_ot_at hW0 hvm.symm (hgood _ (List.mem_cons_of_mem _ List.mem_cons_self)) hini
  have hU' : vx_Zq Bundle.tN "UNASSIGNED_STACK" Bundle.steD A s' s'.heap := by rw [hhp]; exact vx_Zq.moved hW0.alike (hU.kept hS.2.1)
  have hN' : vx_Zq Bundle.tN "SUPPRESSED_SENTINEL" Bundle.listD A s' s'.heap := by rw [hhp]; exact vx_Zq.moved hW0.alike (hN.kept hS.2.1)
  have h : ∀ w ∈ Bundle.ownAtoms0 own ic cls names, w.before args s' = true := vx_own hat' (vx_isRefq hU'.1) (vx_isRefq hN'.1) hU'.2.word hN'.2.word
  have hown' : s'.vm.findClass own = some m.cls := by rw [hvm]; exact hown
  have hins : (Cond.instantiable cls 6).before args s' = true := h _ (by simp [Bundle.ownAtoms0])
  obtain ⟨vm₁, cX, kX, hfX, hkX, -, -, X₁, st1⟩ := Y.newCold hexec (own := own) (C := cls) (index := ik) (n := 6) hown' hk' hins hini'
    (g := F0 m pc ls rest) rfl (by rw [hb]; exact d0) (Nat.le_refl _) (Nat.le_refl _)
  generalize hT1 : (T.setVm vm₁).pushCell { cls := cX, slots := kX.instanceTypes.map defaultValue, vm := .none } = T1 at X₁ st1
  have hcat : (Value.ref T.heap.size).category = 1 := rfl
  have hcellA : T1.heap[T.heap.size]? = some (freshCell cX kX) := by rw [← hT1]; exact State.heap_pushCell_size _ _
  have d3' : decode c.code (pc + 3) = .ok (.dup, 1) := by rw [hb]; exact d3
  obtain ⟨U, hsteps, hrun, hend, hW, hsame, ce, hce, hO⟩ := X₁.ctorThrow0 hexec htr (own := own) (cls := cls) (names := names) (ic := ic) hown' hcls hnames h (fun x hx => nomatch hx) hfX hkX hcellA (by rw [hhp, hT]; exact Nat.le_refl _)
    (g := { method := m, pc := pc + 4, locals := ls, stack := .ref T.heap.size :: .ref T.heap.size :: rest, locked := none }) rfl hsize rfl rfl (rest := rest) rfl
    (by rw [hb]; exact d4) (by rw [hb]; exact d7) hout hRframes (by simp only [List.map_cons, List.sum_cons, hcat]; omega) hlocks
  obtain ⟨f1, f2⟩ := vx_frame hsame
  rw [hhp] at f1 f2
  have hWs : s.WarmedH U.vm := State.WarmedH.trans hW0 hW
  have hcl : s.vm.findClass cls = some ce.cls := by
    have h9 := hO.cls
    rw [hvm] at h9
    exact h9
  have hall : s.sameButNew ({ U with vm := s.vm } : State) locs mc ms := by
    subst hA
    obtain ⟨e1, e2⟩ := hsame
    rw [State.setFrames_setFrames] at e1
    have h2 : (T.setVm s.vm).sameButNew ({ U with vm := s.vm } : State) [] (0 + 1) (0 + 6) := ⟨e1, e2⟩
    have h3 := X.same.trans h2
    rw [List.append_nil] at h3
    exact h3.mono hc hs
  refine ⟨U, ?_, .threw T.heap.size, hrun, hend, Or.inr ⟨T.heap.size, rfl, cls, ce, locs, hx U hWs.alike f1 (fun q hq => f2 q hq (fun z hz => nomatch hz)), hce, hO.vm, hcl, hWs, hall, hf⟩⟩
  refine st1 _ ?_
  show Steps p.tables e below (T1.setTop { method := m, pc := pc + 3, locals := ls, stack := .ref T.heap.size :: rest, locked := none }) _
  jvm_step X₁.here [X₁.here.top, hexec, d3', Value.category]
  exact hsteps
/-- 'throw new E("text")': new; dup; ldc; invokespecial; athrow -/
theorem vx_throwS {cc : ByteArray} {pc : Nat} (hexec : p.tables.exec = Jvm.exec) (hb : c.code = cc) (hl : l.stackTraces = false) {own cls text : String} {names : List String} {ik is ic mc ms sa : Nat} {A : Nat → Prop}
    (hown : s.vm.findClass own = some m.cls) (hcls : Bundle.fit cls = true) (hnames : ∀ n ∈ names, Bundle.fit n = true)
    (hk : (Cond.classLink own ik cls).before args s = true) (hini : (Cond.initialized cls).before args s = true) (hstr : vk_R own is text sa s) (hat : ∀ w ∈ vx_atS own ic cls names, w.before args s = true)
    (hgood : ∀ w ∈ Cond.classLink own ik cls :: Cond.initialized cls :: vx_atS own ic cls names, vx_ot w = true)
    (hU : vx_Zq Bundle.tN "UNASSIGNED_STACK" Bundle.steD A s s.heap) (hN : vx_Zq Bundle.tN "SUPPRESSED_SENTINEL" Bundle.listD A s s.heap) (hS : va_S A s.heap H locs) (hsize : ls.size = c.maxLocals)
    (d0 : decode cc pc = .ok (.new ik, 3)) (d3 : decode cc (pc + 3) = .ok (.dup, 1)) (d4 : decode cc (pc + 4) = .ok (.ldc is, 2)) (d6 : decode cc (pc + 6) = .ok (.invokespecial ic, 3)) (d9 : decode cc (pc + 9) = .ok (.athrow, 1))
    (hout : ∀ x ∈ c.exceptionTable.toList, covers x (pc + 9) = false)
    (hRframes : names.length + 3 < R.frames) (hRlocals : (rest.map fun v => v.category).sum + (13 * (names.length + 1) + 43) ≤ R.locals) (hRcells : cells + 1 ≤ R.cells) (hRslots : slots + 6 ≤ R.slots) (hlocks : meth.locks = false)
    (hx : ∀ t : State, s.vm.Alike t.vm → H.size ≤ t.heap.size → (∀ q : Nat, q < H.size → t.heap[q]? = H[q]?) → XC cls s t)
    (hf : ∀ z ∈ locs, free z.base) (hc : cells + 1 ≤ mc) (hs : slots + 6 ≤ ms) :
    W p l e R s m args below meth c H locs cells slots (vx_MQ below Qc XC args s mc ms free) (F0 m pc ls rest) := by
  intro T hT X
  have htr : e.platform.stackTraces = false := (show e.platform.stackTraces = l.stackTraces by rw [X.admits.platform]).trans hl
  have Y := vx_rebase X (R' := { frames := R.frames, locals := R.locals, cells := 1, slots := 6 }) (Nat.le_refl _) (Nat.le_refl _) hRcells hRslots
  obtain ⟨s', hA⟩ : ∃ z, z = (T.setVm s.vm).setFrames (.invoking m args :: below) := ⟨_, rfl⟩
  rw [← hA] at Y
  have hvm : s'.vm = s.vm := by rw [hA]; rfl
  have hhp : s'.heap = H := by rw [hA]; exact hT
  have hW0 : s.WarmedH s'.vm := by rw [hvm]; exact State.WarmedH.refl s
  have hat' : ∀ w ∈ vx_atS own ic cls names, w.before args s' = true := fun w hw => vx_ot_at hW0 hvm.symm (hgood w (List.mem_cons_of_mem _ (List.mem_cons_of_mem _ hw))) (hat w hw)
  have hk' : (Cond.classLink own ik cls).before args s' = true := vx_ot_at hW0 hvm.symm (hgood _ List.mem_cons_self) hk
  have hini' : (Cond.initialized cls).before args s' = true := vx_ot_at hW0 hvm.symm (hgood _ (List.mem_cons_of_mem _ List.mem_cons_self)) hini
  have hU' : vx_Zq Bundle.tN "UNASSIGNED_STACK" Bundle.steD A s' s'.heap := by rw [hhp]; exact vx_Zq.moved hW0.alike (hU.kept hS.2.1)
  have hN' : vx_Zq Bundle.tN "SUPPRESSED_SENTINEL" Bundle.listD A s' s'.heap := by rw [hhp]; exact vx_Zq.moved hW0.alike (hN.kept hS.2.1)
  have h : ∀ w ∈ Bundle.ownAtoms own ic cls names, w.before args s' = true := vx_own hat' (vx_isRefq hU'.1) (vx_isRefq hN'.1) hU'.2.word hN'.2.word
  have hown' : s'.vm.findClass own = some m.cls := by rw [hvm]; exact hown
  have hins : (Cond.instantiable cls 6).before args s' = true := h _ (by simp [Bundle.ownAtoms])
  obtain ⟨vm₁, cX, kX, hfX, hkX, -, -, X₁, st1⟩ := Y.newCold hexec (own := own) (C := cls) (index := ik) (n := 6) hown' hk' hins hini'
    (g := F0 m pc ls rest) rfl (by rw [hb]; exact d0) (Nat.le_refl _) (Nat.le_refl _)
  generalize hT1 : (T.setVm vm₁).pushCell { cls := cX, slots := kX.instanceTypes.map defaultValue, vm := .none } = T1 at X₁ st1
  have hcat : (Value.ref T.heap.size).category = 1 := rfl
  have hcellA : T1.heap[T.heap.size]? = some (freshCell cX kX) := by rw [← hT1]; exact State.heap_pushCell_size _ _
  have d3' : decode c.code (pc + 3) = .ok (.dup, 1) := by rw [hb]; exact d3
  have d4' : decode c.code (pc + 4) = .ok (.ldc is, 2) := by rw [hb]; exact d4
  have hstr' : vk_R own is text sa s' := vk_R.warm hW0 hstr
  obtain ⟨U, hsteps, hrun, hend, hW, hsame, ce, hce, hO⟩ := X₁.ctorThrowS hexec htr (own := own) (cls := cls) (names := names) (ic := ic) hown' hcls hnames h (fun x hx => nomatch hx) hfX hkX hcellA (by rw [hhp, hT]; exact Nat.le_refl _) (msg := .ref sa) rfl
    (g := { method := m, pc := pc + 6, locals := ls, stack := .ref sa :: .ref T.heap.size :: .ref T.heap.size :: rest, locked := none }) rfl hsize rfl rfl (rest := rest) rfl
    (by rw [hb]; exact d6) (by rw [hb]; exact d9) hout hRframes (by simp only [List.map_cons, List.sum_cons, hcat]; omega) hlocks
  obtain ⟨f1, f2⟩ := vx_frame hsame
  rw [hhp] at f1 f2
  have hWs : s.WarmedH U.vm := State.WarmedH.trans hW0 hW
  have hcl : s.vm.findClass cls = some ce.cls := by
    have h9 := hO.cls
    rw [hvm] at h9
    exact h9
  have hall : s.sameButNew ({ U with vm := s.vm } : State) locs mc ms := by
    subst hA
    obtain ⟨e1, e2⟩ := hsame
    rw [State.setFrames_setFrames] at e1
    have h2 : (T.setVm s.vm).sameButNew ({ U with vm := s.vm } : State) [] (0 + 1) (0 + 6) := ⟨e1, e2⟩
    have h3 := X.same.trans h2
    rw [List.append_nil] at h3
    exact h3.mono hc hs
  refine ⟨U, ?_, .threw T.heap.size, hrun, hend, Or.inr ⟨T.heap.size, rfl, cls, ce, locs, hx U hWs.alike f1 (fun q hq => f2 q hq (fun z hz => nomatch hz)), hce, hO.vm, hcl, hWs, hall, hf⟩⟩
  refine st1 _ ?_
  show Steps p.tables e below (T1.setTop { method := m, pc := pc + 3, locals := ls, stack := .ref T.heap.size :: rest, locked := none }) _
  jvm_step X₁.here [X₁.here.top, hexec, d3', Value.category]
  exact X₁.ldcString hexec (own := own) (text := text) (index := is) (a := sa) hown' hstr'.1 hstr'.2
    (g := { method := m, pc := pc + 4, locals := ls, stack := .ref T.heap.size :: .ref T.heap.size :: rest, locked := none }) rfl d4' _ hsteps
/-- 'throw new E("text")', the text by a wide index -/
theorem vx_throwSW {cc : ByteArray} {pc : Nat} (hexec : p.tables.exec = Jvm.exec) (hb : c.code = cc) (hl : l.stackTraces = false) {own cls text : String} {names : List String} {ik is ic mc ms sa : Nat} {A : Nat → Prop}
    (hown : s.vm.findClass own = some m.cls) (hcls : Bundle.fit cls = true) (hnames : ∀ n ∈ names, Bundle.fit n = true)
    (hk : (Cond.classLink own ik cls).before args s = true) (hini : (Cond.initialized cls).before args s = true) (hstr : vk_R own is text sa s) (hat : ∀ w ∈ vx_atS own ic cls names, w.before args s = true)
    (hgood : ∀ w ∈ Cond.classLink own ik cls :: Cond.initialized cls :: vx_atS own ic cls names, vx_ot w = true)
    (hU : vx_Zq Bundle.tN "UNASSIGNED_STACK" Bundle.steD A s s.heap) (hN : vx_Zq Bundle.tN "SUPPRESSED_SENTINEL" Bundle.listD A s s.heap) (hS : va_S A s.heap H locs) (hsize : ls.size = c.maxLocals)
    (d0 : decode cc pc = .ok (.new ik, 3)) (d3 : decode cc (pc + 3) = .ok (.dup, 1)) (d4 : decode cc (pc + 4) = .ok (.ldc_w is, 3)) (d7 : decode cc (pc + 7) = .ok (.invokespecial ic, 3)) (d10 : decode cc (pc + 10) = .ok (.athrow, 1))
    (hout : ∀ x ∈ c.exceptionTable.toList, covers x (pc + 10) = false)
    (hRframes : names.length + 3 < R.frames) (hRlocals : (rest.map fun v => v.category).sum + (13 * (names.length + 1) + 43) ≤ R.locals) (hRcells : cells + 1 ≤ R.cells) (hRslots : slots + 6 ≤ R.slots) (hlocks : meth.locks = false)
    (hx : ∀ t : State, s.vm.Alike t.vm → H.size ≤ t.heap.size → (∀ q : Nat, q < H.size → t.heap[q]? = H[q]?) → XC cls s t)
    (hf : ∀ z ∈ locs, free z.base) (hc : cells + 1 ≤ mc) (hs : slots + 6 ≤ ms) :
    W p l e R s m args below meth c H locs cells slots (vx_MQ below Qc XC args s mc ms free) (F0 m pc ls rest) := by
  intro T hT X
  have htr : e.platform.stackTraces = false := (show e.platform.stackTraces = l.stackTraces by rw [X.admits.platform]).trans hl
  have Y := vx_rebase X (R' := { frames := R.frames, locals := R.locals, cells := 1, slots := 6 }) (Nat.le_refl _) (Nat.le_refl _) hRcells hRslots
  obtain ⟨s', hA⟩ : ∃ z, z = (T.setVm s.vm).setFrames (.invoking m args :: below) := ⟨_, rfl⟩
  rw [← hA] at Y
  have hvm : s'.vm = s.vm := by rw [hA]; rfl
  have hhp : s'.heap = H := by rw [hA]; exact hT
  have hW0 : s.WarmedH s'.vm := by rw [hvm]; exact State.WarmedH.refl s
  have hat' : ∀ w ∈ vx_atS own ic cls names, w.before args s' = true := fun w hw => vx_ot_at hW0 hvm.symm (hgood w (List.mem_cons_of_mem _ (List.mem_cons_of_mem _ hw))) (hat w hw)
  have hk' : (Cond.classLink own ik cls).before args s' = true := vx_ot_at hW0 hvm.symm (hgood _ List.mem_cons_self) hk
  have hini' : (Cond.initialized cls).before args s' = true := vx_ot_at hW0 hvm.symm (hgood _ (List.mem_cons_of_mem _ List.mem_cons_self)) hini
  have hU' : vx_Zq Bundle.tN "UNASSIGNED_STACK" Bundle.steD A s' s'.heap := by rw [hhp]; exact vx_Zq.moved hW0.alike (hU.kept hS.2.1)
  have hN' : vx_Zq Bundle.tN "SUPPRESSED_SENTINEL" Bundle.listD A s' s'.heap := by rw [hhp]; exact vx_Zq.moved hW0.alike (hN.kept hS.2.1)
  have h : ∀ w ∈ Bundle.ownAtoms own ic cls names, w.before args s' = true := vx_own hat' (vx_isRefq hU'.1) (vx_isRefq hN'.1) hU'.2.word hN'.2.word
  have hown' : s'.vm.findClass own = some m.cls := by rw [hvm]; exact hown
  have hins : (Cond.instantiable cls 6).before args s' = true := h _ (by simp [Bundle.ownAtoms])
  obtain ⟨vm₁, cX, kX, hfX, hkX, -, -, X₁, st1⟩ := Y.newCold hexec (own := own) (C := cls) (index := ik) (n := 6) hown' hk' hins hini'
    (g := F0 m pc ls rest) rfl (by rw [hb]; exact d0) (Nat.le_refl _) (Nat.le_refl _)
  generalize hT1 : (T.setVm vm₁).pushCell { cls := cX, slots := kX.instanceTypes.map defaultValue, vm := .none } = T1 at X₁ st1
  have hcat : (Value.ref T.heap.size).category = 1 := rfl
  have hcellA : T1.heap[T.heap.size]? = some (freshCell cX kX) := by rw [← hT1]; exact State.heap_pushCell_size _ _
  have d3' : decode c.code (pc + 3) = .ok (.dup, 1) := by rw [hb]; exact d3
  have d4' : decode c.code (pc + 4) = .ok (.ldc_w is, 3) := by rw [hb]; exact d4
  have hstr' : vk_R own is text sa s' := vk_R.warm hW0 hstr
  obtain ⟨U, hsteps, hrun, hend, hW, hsame, ce, hce, hO⟩ := X₁.ctorThrowS hexec htr (own := own) (cls := cls) (names := names) (ic := ic) hown' hcls hnames h (fun x hx => nomatch hx) hfX hkX hcellA (by rw [hhp, hT]; exact Nat.le_refl _) (msg := .ref sa) rfl
    (g := { method := m, pc := pc + 7, locals := ls, stack := .ref sa :: .ref T.heap.size :: .ref T.heap.size :: rest, locked := none }) rfl hsize rfl rfl (rest := rest) rfl
    (by rw [hb]; exact d7) (by rw [hb]; exact d10) hout hRframes (by simp only [List.map_cons, List.sum_cons, hcat]; omega) hlocks
  obtain ⟨f1, f2⟩ := vx_frame hsame
  rw [hhp] at f1 f2
  have hWs : s.WarmedH U.vm := State.WarmedH.trans hW0 hW
  have hcl : s.vm.findClass cls = some ce.cls := by
    have h9 := hO.cls
    rw [hvm] at h9
    exact h9
  have hall : s.sameButNew ({ U with vm := s.vm } : State) locs mc ms := by
    subst hA
    obtain ⟨e1, e2⟩ := hsame
    rw [State.setFrames_setFrames] at e1
    have h2 : (T.setVm s.vm).sameButNew ({ U with vm := s.vm } : State) [] (0 + 1) (0 + 6) := ⟨e1, e2⟩
    have h3 := X.same.trans h2
    rw [List.append_nil] at h3
    exact h3.mono hc hs
  refine ⟨U, ?_, .threw T.heap.size, hrun, hend, Or.inr ⟨T.heap.size, rfl, cls, ce, locs, hx U hWs.alike f1 (fun q hq => f2 q hq (fun z hz => nomatch hz)), hce, hO.vm, hcl, hWs, hall, hf⟩⟩
  refine st1 _ ?_
  show Steps p.tables e below (T1.setTop { method := m, pc := pc + 3, locals := ls, stack := .ref T.heap.size :: rest, locked := none }) _
  jvm_step X₁.here [X₁.here.top, hexec, d3', Value.category]
  exact X₁.ldcStringW hexec (own := own) (text := text) (index := is) (a := sa) hown' hstr'.1 hstr'.2
    (g := { method := m, pc := pc + 4, locals := ls, stack := .ref T.heap.size :: .ref T.heap.size :: rest, locked := none }) rfl d4' _ hsteps
end Ends
section Bodies
variable {l : Launch}
theorem vx_ofW {y : MethodName} {ws ws' : List Cond} {rm : Room} {Pc : Array Value → State → Prop} {Qc : Array Value → State → Outcome → State → Prop} {XC : String → State → State → Prop} {mc ms : Nat} {free : Addr → Prop} {cc : ByteArray} {maxL : Nat} {ret : Option FieldType}
    (hy : plainName y.cls = true) (hw : ws = Cond.code y cc maxL ret :: ws')
    (body : ∀ p e s m args below meth c s₁, BodyLoose p l y (headSpec ws rm) cc maxL ret e s m args below meth c s₁ → c.maxLocals = maxL → (∀ x ∈ c.exceptionTable.toList, False) → Pc args s →
      W p l e (headSpec ws rm).room s m args below meth c s.heap [] 0 0 (vx_MQ below Qc XC args s mc ms free) (entryFrame m args maxL)) : vx_Met l y ws rm Pc Qc XC mc ms free := by
  refine MetFree.of_bodyS (code := cc) (maxLocals := maxL) (ret := ret) hy ?_ ?_
  · intro args s m h hn
    obtain ⟨meth, c, h1, h2, h3, h4, h5, h6, -, -⟩ := Cond.code_spec hn (atoms_spec (ws := ws) h _ (by rw [hw]; exact List.mem_cons_self))
    exact ⟨meth, c, h1, h2, h3, h4, h5, h6⟩
  · intro p e s m args below meth c s₁ B hml hP _
    have hh0 : s₁.heap = s.heap := by rw [B.state]; rfl
    have ht : ∀ x ∈ c.exceptionTable.toList, False := by
      obtain ⟨meth9, c9, h1, h2, -, -, -, -, h7, -⟩ := Cond.code_spec B.named (atoms_spec (ws := ws) B.pre _ (by rw [hw]; exact List.mem_cons_self))
      cases Option.some.inj (h1.symm.trans B.method)
      cases Option.some.inj (h2.symm.trans (Stand.of_body B).code)
      intro x hx
      rw [Array.isEmpty_iff.mp h7] at hx
      cases hx
    obtain ⟨t, a1, o, b1, b2, b3⟩ := body p e s m args below meth c s₁ B hml ht hP s₁ hh0 (Stand.of_body B)
    exact ⟨t, o, a1, b1, b2, b3⟩
/-- the table of a body with handlers -/
theorem vx_table {p : Program} {x y : MethodName} {S : Spec} {cc bytes : ByteArray} {maxL maxL' : Nat} {ret ret' : Option FieldType} {e : Env} {s s₁ : State} {m : MethodId} {args : Array Value} {below : List Frame} {meth : Method} {c : Code} {hh : List (Nat × Nat × Nat × Nat)}
    (B : BodyLoose p l y S cc maxL ret e s m args below meth c s₁) (h : (Cond.codeWith y bytes maxL' ret' hh).before args s = true) : c.exceptionTable.toList = tableOf hh := by
  obtain ⟨m9, meth9, c9, hn9, h1, h2, -, -, h6, -⟩ := Cond.codeWith_spec h
  cases Option.some.inj (hn9.symm.trans B.named)
  cases Option.some.inj (h1.symm.trans B.method)
  cases Option.some.inj (h2.symm.trans (Stand.of_body B).code)
  rw [← h6, table_eq]
end Bodies
end VXA
/-! ===== END ===== -/
/-! ===== BEGIN a static call of a method with an exception table ===== -/
section VXS
variable {p : Program} {l : Launch} {e : Env} {R : Room} {s : State} {m : MethodId} {args : Array Value} {below : List Frame} {meth : Method} {c : Code} {T : State} {H : Heap} {locs : List Loc} {cells slots : Nat}
abbrev vx_CSW (R : Room) (s : State) (args : Array Value) (own : String) (index : Nat) (y : MethodName) (bytes : ByteArray) (maxL : Nat) (ret : Option FieldType) (hh : List (Nat × Nat × Nat × Nat)) (ws : List Cond) (rm : Room) (mc ms n : Nat) : Prop :=
  (rm.cells = mc ∧ rm.slots = ms ∧ rm.frames + 1 ≤ R.frames ∧ 8 + (maxL + 11) + rm.locals ≤ R.locals ∧ (∀ w ∈ ws, ∀ (a' : Array Value) (U : State), s.WarmedH U.vm → w.before a' U = true) ∧ Cond.codeWith y bytes maxL ret hh ∈ ws) ∧
  (Cond.codeWith y bytes maxL ret hh).before args s = true ∧ (Cond.initialized y.cls).before args s = true ∧ (y.cls ≠ "java/lang/invoke/MethodHandle" ∧ y.cls ≠ "java/lang/invoke/VarHandle") ∧
  (∀ sig, parseMethodDescriptor y.desc = some sig → n = sig.parameters.length) ∧ (Cond.methodLink own index y).before args s = true ∧ (Cond.static y).before args s = true
theorem vx_cwSW {own : String} {index maxL mc ms : Nat} {y : MethodName} {bytes : ByteArray} {ret : Option FieldType} {hh : List (Nat × Nat × Nat × Nat)} {Ts ws ws' : List Cond} {rm : Room} (n : Nat) (ht : ∀ w ∈ Ts, w.before args s = true) (hT : GoodIn Ts (va_wsS own index y ws)) (hw : ws = Cond.codeWith y bytes maxL ret hh :: ws') (hrc : rm.cells = mc) (hrs : rm.slots = ms)
    (hd : y.cls ≠ "java/lang/invoke/MethodHandle" ∧ y.cls ≠ "java/lang/invoke/VarHandle" ∧ (parseMethodDescriptor y.desc).map (fun d => d.parameters.length) = some n) (hR : rm.frames + 1 ≤ R.frames ∧ 8 + (maxL + 11) + rm.locals ≤ R.locals) :
    vx_CSW R s args own index y bytes maxL ret hh ws rm mc ms n := by
  have ok : ∀ w ∈ va_wsS own index y ws, w.before args s = true := fun w h => ht w (hT w h).1
  have hG : GoodIn Ts ws := fun w h => hT w (by unfold va_wsS; exact List.mem_append_right _ h)
  have hc : Cond.codeWith y bytes maxL ret hh ∈ ws := by rw [hw]; exact List.mem_cons_self
  refine ⟨⟨hrc, hrs, hR.1, hR.2, pay_in ht hG, hc⟩, ht _ (hG _ hc).1, ok _ (by simp [va_wsS]), ⟨hd.1, hd.2.1⟩, fun sig h => ?_, ok _ (by simp [va_wsS]), ok _ (by simp [va_wsS])⟩
  have h2 := hd.2.2
  rw [h] at h2
  exact (Option.some.inj h2).symm
theorem vx_callSW (X : Stand p l e R s m args below meth c T locs cells slots) (hexec : p.tables.exec = Jvm.exec) {own : String} {index : Nat} {y : MethodName} {bytes : ByteArray} {maxL : Nat} {ret : Option FieldType} {hh : List (Nat × Nat × Nat × Nat)}
    (hown : s.vm.findClass own = some m.cls) (hlink : (Cond.methodLink own index y).before args s = true) (hstat : (Cond.static y).before args s = true) (hinit : (Cond.initialized y.cls).before args s = true)
    (hcode : (Cond.codeWith y bytes maxL ret hh).before args s = true) (hy : y.cls ≠ "java/lang/invoke/MethodHandle" ∧ y.cls ≠ "java/lang/invoke/VarHandle")
    {W9 : Nat} {Pre : Pt → Array Value → Prop} {Post : Pt → Array Value → Option Value → Pt → Prop} (hK : Back l R p e below s args y 3 W9 Pre Post)
    {g : JFrame} (hg : g.method = m) (hsize : g.locals.size = c.maxLocals) {argsL rest : List Value} (hlen : ∀ sig, parseMethodDescriptor y.desc = some sig → argsL.length = sig.parameters.length)
    (hstack : g.stack = argsL.reverse ++ rest) (hW : 2 * g.monitorRoom + (rest.map fun v => v.category).sum ≤ W9) (hdg : decode c.code g.pc = .ok (.invokestatic index, 3))
    (hpre : ∀ vm₁, s.WarmedH vm₁ → Pre ⟨T.setVm vm₁, locs, cells, slots⟩ argsL.toArray) :
    ∃ (v : Option Value) (vm₁ : Vm) (B : Pt), s.WarmedH vm₁ ∧ Stand p l e R s m args below meth c B.U B.locs B.cells B.slots ∧ Post ⟨T.setVm vm₁, locs, cells, slots⟩ argsL.toArray v B ∧
      ∀ target, Steps p.tables e below (B.U.setTop { g with pc := g.pc + 3, stack := v.toList ++ rest }) target → Steps p.tables e below (T.setTop g) target := by
  obtain ⟨mk, methM, cM, hnamed, hmethM, -, -, -, -, -, -, hsigM⟩ := Cond.codeWith_spec hcode
  have hstatic : methM.isStatic = true := Cond.static_spec hnamed hmethM hstat
  obtain ⟨kP, hkP, -⟩ := className_of_methodNamed hnamed
  have hinitP : kP.init = .initialized := Cond.initialized_spec (findClass_of_methodNamed hnamed) hkP hinit
  obtain ⟨vm₁, X₁, hstep₁⟩ := X.invokestatic hexec hown hlink hnamed hmethM hstatic hkP hinitP hy (g := g) hg (argsL := argsL) (rest := rest) (hlen _ hsigM) hstack hdg
  obtain ⟨v, B, X', hpost, hsteps⟩ := hK m meth c ⟨T.setVm vm₁, locs, cells, slots⟩ { g with stack := rest } (.invokestatic index) mk argsL.toArray X₁ hg hsize hdg hW (X₁.named hnamed) (hpre vm₁ X₁.warmed)
  exact ⟨v, vm₁, B, X₁.warmed, X', hpost, fun target h => hstep₁ _ fun acts => by rw [doInvoke_state]; exact hsteps.trans h⟩
theorem vx_runSW {y : MethodName} {bytes cc : ByteArray} {maxL nL mc ms n index : Nat} {ret : Option FieldType} {hh : List (Nat × Nat × Nat × Nat)} {ws : List Cond} {rm : Room} {Pc : Array Value → State → Prop} {Qc : Array Value → State → Outcome → State → Prop} {free : Addr → Prop} {Ts : List Cond} {own : String} {As rest : List Value} {g : JFrame}
    (S : CallFix p m c cc nL s args Ts own) (hM : Met l y ws rm Pc Qc mc ms free) (cw : vx_CSW R s args own index y bytes maxL ret hh ws rm mc ms n) (hp : PreS s H Pc As)
    (hg : g.method = m) (hn : As.length = n) (hsize : g.locals.size = nL) (hstack : g.stack = As.reverse ++ rest) (hW : 2 * g.monitorRoom + (rest.map fun v => v.category).sum ≤ 8) (hdg : decode cc g.pc = .ok (.invokestatic index, 3)) (hf : cells + mc ≤ R.cells ∧ slots + ms ≤ R.slots) :
    va_Run p l e R s m args below meth c H locs cells slots mc ms g rest (Qc As.toArray) (free) := by
  obtain ⟨⟨hrc, hrs, hfr, hlo, hws, hcw⟩, hcode, hini, hy, hlen, hl, hstt⟩ := cw
  have hK : Back l R p e below s args y 3 8 (PreOf R mc ms Pc) (PostOf Qc mc ms free) := va_backW (hh := hh) (bytes := bytes) (maxL := maxL) (ret := ret) hM hp.1 hrc hrs hfr hlo hws hcw (fun a' U hW => word_at hW (Or.inl (by first | rfl | simp [Cond.onTables, Cond.keeps, Cond.steady])) hini)
  obtain ⟨hx, hb, hml, ho, -⟩ := S
  intro T hT X
  obtain ⟨v, vm₁, ⟨U', l2, c2, s2⟩, hW₁, X', ⟨g', mk, t, L, e1, e2, hq, h1, hL, h2, h3⟩, st⟩ := vx_callSW X hx (hh := hh) (bytes := bytes) (maxL := maxL) (ret := ret) ho hl hstt hini hcode hy hK hg (hsize.trans hml.symm) (argsL := As) (rest := rest) (fun sig h => hn.trans (hlen sig h)) hstack hW (by rw [hb]; exact hdg)
    (fun vm₁ hW₁ => ⟨hf.1, hf.2, hp.2 (T.setVm vm₁) hT hW₁⟩)
  dsimp only [Pt.U, Pt.locs, Pt.cells, Pt.slots] at X' e1 e2 h1 h2 h3 st
  subst h1; subst h2; subst h3
  exact ⟨v, (T.setVm vm₁).calling g' mk As.toArray, t, U', L, hT, X', hL, e1, e2, hq, st⟩
/-- not caught here, past rows that name other classes: it goes on to the caller -/
theorem vx_outP {p : Program} {l : Launch} {e : Env} {R : Room} {s : State} {m : MethodId} {args : Array Value} {below : List Frame} {meth : Method} {c : Code} {H : Heap} {locs : List Loc} {cells slots : Nat} {free : Addr → Prop} {ls : Array Slot} {rest : List Value} {Qc : Array Value → State → Outcome → State → Prop} {XC : String → State → State → Prop}
    {pc : Nat} {own E : String} {ce : Cell} {q : Addr} {mc ms : Nat} (hown : s.vm.findClass own = some m.cls) (hlocks : meth.locks = false)
    (hpass : ∀ z ∈ c.exceptionTable.toList, covers z pc = false ∨ (z.catchType ≠ 0 ∧ ∃ nm : String, (Cond.classLink own z.catchType nm).before args s = true ∧ va_Nc E nm s)) (hcell : H[q]? = some ce) (hv : ce.vm = .none) (hcl : s.vm.findClass E = some ce.cls)
    (hx : ∀ t : State, t.heap = H → s.vm.Alike t.vm → XC E s t) (hf : ∀ z ∈ locs, free z.base) (hc : cells ≤ mc) (hs : slots ≤ ms) :
    vx_W p l e R s m args below meth c H locs cells slots (vx_MQ below Qc XC args s mc ms free) (F0 m pc ls rest) q := by
  intro T hT X
  have hpl : e.platform.magicAccessors = ({} : Platform).magicAccessors := by rw [X.admits.platform]
  obtain ⟨vm', hW', X', st⟩ := X.outThrough hlocks q (g := F0 m pc ls rest) rfl rfl rfl (cell := ce) (by rw [hT]; exact hcell) (by rw [hv]; rfl)
    (by obtain ⟨k9, h9, -⟩ := Vm.findClass_spec hcl; exact ⟨k9, h9⟩) (fun z hz => by
      rcases hpass z hz with h | ⟨hz0, nm, hl1, hn1⟩
      · exact Or.inl h
      · obtain ⟨c6, hc6, hcl6⟩ := Cond.classLink_spec hown hl1 e.platform hpl
        obtain ⟨a8, b8, h1, h2, h3⟩ := hn1
        cases Option.some.inj (h1.symm.trans hcl)
        cases Option.some.inj (h2.symm.trans hc6)
        exact Or.inr ⟨hz0, _, hcl6, h3⟩)
  obtain ⟨g₀, hfr⟩ := X'.frames_eq
  have hcell9 : ((T.setVm vm').setFrames (.throwing q :: below)).heap[q]? = some ce := by
    show T.heap[q]? = some ce
    rw [hT]; exact hcell
  have hend : Ended ((T.setVm vm').setFrames (.throwing q :: below)) below (.threw q) := State.frames_setFrames _ (State.cur_lt_of_frames hfr)
  refine ⟨(T.setVm vm').setFrames (.throwing q :: below), ?_, .threw q, X'.here.running, hend, Or.inr ⟨q, rfl, E, ce, locs, hx _ hT (X'.ends _).1.alike, hcell9, hv, hcl, (X'.ends _).1, (X'.ends _).2.mono hc hs, hf⟩⟩
  rw [X.pushThrowing_eq]
  exact st
/-- a thing of a world lies in the heap -/
theorem vx_lt {D : va_G} {cl : List vw_C} {ws : va_W} {H1 : Heap} (h : va_P D cl ws H1) {k : Nat} {q : Nat × va_E} (hk : ws[k]? = some q) : q.1 < H1.size := (h k q hk).lt
end VXS
/-! ===== END ===== -/
/-! ===== BEGIN methods with a table of their own: called by a name, returning or throwing ===== -/
section VXH
/-! vx_backW, vx_callVX, vx_callSX, vx_callVW, vx_runVW, vx_runVX, vx_runSX, vx_ofWH follow the same proofs as their sisters above (Free/Laws.lean, Shelf42/LK1.lean); vx_outP calls Shelf42/NT130.lean (outThrough). -/
section
variable {l : Launch} {R : Room} {p : Program} {e : Env} {below : List Frame} {s : State} {sargs : Array Value} {y : MethodName} {len W9 : Nat}
theorem vx_backW {ws : List Cond} {rm : Room} {Pc : Array Value → State → Prop} {Qc : Array Value → State → Outcome → State → Prop} {XC : String → State → State → Prop} {mc ms : Nat} {free : Addr → Prop} {bytes : ByteArray} {maxL : Nat} {ret : Option FieldType} {hh : List (Nat × Nat × Nat × Nat)}
    (hM : vx_Met l y ws rm Pc Qc XC mc ms free) (hblind : FrameBlind Pc) (hrc : rm.cells = mc) (hrs : rm.slots = ms)
    (hframes : rm.frames + 1 ≤ R.frames) (hlocals : W9 + (maxL + 11) + rm.locals ≤ R.locals)
    (hws : ∀ w ∈ ws, ∀ a' U, s.WarmedH U.vm → w.before a' U = true) (hcode : Cond.codeWith y bytes maxL ret hh ∈ ws) (hinit : ∀ a' U, s.WarmedH U.vm → (Cond.initialized y.cls).before a' U = true) :
    vx_Back l R p e below s sargs y len W9 (PreOf R mc ms Pc) (PostOf Qc mc ms free) (vx_Post XC mc ms free) := by
  intro m meth c A g ig mk a X hg hsize hdg hW hn hp
  have h1 : (headSpec ws rm).pre.before a A.U = true := atoms_intro fun w hw => hws w hw _ _ X.warmed
  have h2 : (Cond.codeWith y bytes maxL ret hh).before a A.U = true := hws _ hcode _ _ X.warmed
  have h3 : (Cond.initialized y.cls).before a A.U = true := hinit _ _ X.warmed
  have h4 : A.cells + (headSpec ws rm).room.cells ≤ R.cells := by rw [show (headSpec ws rm).room.cells = mc from hrc]; exact hp.1
  have h5 : A.slots + (headSpec ws rm).room.slots ≤ R.slots := by rw [show (headSpec ws rm).room.slots = ms from hrs]; exact hp.2.1
  have hPc : Pc a (A.U.calling g mk a) := hblind _ _ _ _ hp.2.2
  obtain ⟨U, Ls, c0, s0⟩ := A
  dsimp only [Pt.U, Pt.locs, Pt.cells, Pt.slots] at h1 h2 h3 h4 h5 X hn hPc ⊢
  obtain ⟨m9, methY, cY, hn9, hmY, hcY, -, hlY, -⟩ := Cond.codeWith_spec h2
  cases Option.some.inj (hn9.symm.trans hn)
  obtain ⟨kY, hkY, -⟩ := className_of_methodNamed hn
  have hinitY : kY.init = .initialized := Cond.initialized_spec (findClass_of_methodNamed hn) hkY h3
  have h : At U g.method c below := by rw [hg]; exact X.here
  have hlocals9 : W9 + (maxL + 11) + (headSpec ws rm).room.locals ≤ R.locals := hlocals
  have happ : (headSpec ws rm).appliesLoose y e.platform (U.calling g mk a) = true :=
    Spec.appliesLoose_calling (g := g) h hdg hn hkY hinitY
      (X.room_calling (g := g) (R' := (headSpec ws rm).room) hsize hmY hcY hframes (by rw [hlY]; omega) h4 h5) h1
  obtain ⟨mid, hmid⟩ := h.above
  have hfr : (U.setTop g).frames = (.java g :: mid) ++ below := by rw [State.frames_setTop' g h.top, hmid]; rfl
  obtain ⟨o, s₂, hsteps, -, hend, hq⟩ := Steps.callFree hM p X.admits X.cas X.clock (acts := []) hfr happ hPc trivial
  have hq' : vx_Q Qc XC mc ms free a (U.calling g mk a) o s₂ := hq
  rw [State.frames_setTop' g h.top] at hend
  obtain ⟨g₀, hg0⟩ := Option.isSome_iff_exists.mp h.top
  obtain ⟨r, hr⟩ := State.topJava?_eq_some.mp hg0
  have hr' : (({ U with heap := s₂.heap, slotsUsed := s₂.slotsUsed } : State).setVm s₂.vm).frames = .java g₀ :: r := hr
  rcases hq' with ⟨hqc, L, hfe, hL⟩ | ⟨q, rfl, E, ce, L, hx, hce, hcv, hcl, hW₂, hsm, hL⟩
  · obtain ⟨⟨v, rfl⟩, hW₂, e2, q2, q3, q4, q5, q6⟩ := id hfe
    have e3 : s₂ = ({ (U.calling g mk a).setFrames s₂.frames with heap := s₂.heap, slotsUsed := s₂.slotsUsed } : State).setVm s₂.vm := by
      have : s₂ = ({ s₂ with vm := (U.calling g mk a).vm } : State).setVm s₂.vm := rfl
      rw [e2] at this
      exact this
    obtain ⟨c₂, i₂, len₂, hc₂, hd₂, hf₂⟩ := hend
    have hW' : U.WarmedH s₂.vm := hW₂
    have hcc : c₂ = c := by
      have h1 : s₂.code? g.method = U.code? g.method := by
        rw [State.code?_eq, State.code?_eq, hW'.alike.method?]
      exact Option.some.inj (hc₂.symm.trans (h1.trans h.code))
    subst hcc
    have hlen : len₂ = len := by rw [hdg] at hd₂; cases hd₂; rfl
    subst hlen
    have hs₂ : s₂ = (({ U with heap := s₂.heap, slotsUsed := s₂.slotsUsed } : State).setVm s₂.vm).setTop { g with pc := g.pc + len₂, stack := v.toList ++ g.stack } := by
      refine e3.trans ?_
      rw [hf₂, State.calling_eq h.top, State.setFrames_setFrames, State.setTop_of_frames _ hr', hr]
      rfl
    have hsame : U.sameButNew ({ U with heap := s₂.heap, slotsUsed := s₂.slotsUsed } : State) L mc ms := by
      refine ⟨?_, q2, q3, q4, q5, q6⟩
      obtain ⟨t, ht, -⟩ := State.frames_cons hr
      show ({ U with heap := s₂.heap, slotsUsed := s₂.slotsUsed } : State) = { U.setFrames U.frames with heap := s₂.heap, slotsUsed := s₂.slotsUsed }
      rw [State.setFrames_self ht]
    subst hg
    refine Or.inl ⟨v, ⟨(({ U with heap := s₂.heap, slotsUsed := s₂.slotsUsed } : State).setVm s₂.vm), Ls ++ L, c0 + mc, s0 + ms⟩,
      ⟨X.admits, X.cas, X.clock, X.frames, X.room, X.hears, X.method, X.code, (X.here.setHeapUsed s₂.heap s₂.slotsUsed).setVm hW'.alike, X.tail, State.WarmedH.trans X.warmed hW', X.limits, X.bytes, X.same.trans (hsame.setVm s.vm)⟩,
      ⟨g, mk, s₂, L, rfl, rfl, hqc, rfl, hL, rfl, rfl⟩, ?_⟩
    show Steps p.tables e below _ ((({ U with heap := s₂.heap, slotsUsed := s₂.slotsUsed } : State).setVm s₂.vm).setTop { g with pc := g.pc + len₂, stack := v.toList ++ g.stack })
    rw [← hs₂]
    exact hsteps
  · obtain ⟨e2, q2, q3, q4, q5, q6⟩ := id hsm
    have e3 : s₂ = ({ (U.calling g mk a).setFrames s₂.frames with heap := s₂.heap, slotsUsed := s₂.slotsUsed } : State).setVm s₂.vm := by
      have : s₂ = ({ s₂ with vm := (U.calling g mk a).vm } : State).setVm s₂.vm := rfl
      rw [e2] at this
      exact this
    have hf₂ : s₂.frames = .throwing q :: .java g :: U.frames.tail := hend
    have hW' : U.WarmedH s₂.vm := hW₂
    have hs₂ : s₂ = ((({ U with heap := s₂.heap, slotsUsed := s₂.slotsUsed } : State).setVm s₂.vm).setTop g).pushFrame (.throwing q) := by
      refine e3.trans ?_
      rw [hf₂, State.calling_eq h.top, State.setFrames_setFrames, State.pushFrame, State.frames_setTop _ hr', State.setTop_of_frames _ hr', State.setFrames_setFrames, hr]
      rfl
    have hsame : U.sameButNew ({ U with heap := s₂.heap, slotsUsed := s₂.slotsUsed } : State) L mc ms := by
      refine ⟨?_, q2, q3, q4, q5, q6⟩
      obtain ⟨t, ht, -⟩ := State.frames_cons hr
      show ({ U with heap := s₂.heap, slotsUsed := s₂.slotsUsed } : State) = { U.setFrames U.frames with heap := s₂.heap, slotsUsed := s₂.slotsUsed }
      rw [State.setFrames_self ht]
    subst hg
    refine Or.inr ⟨q, ⟨(({ U with heap := s₂.heap, slotsUsed := s₂.slotsUsed } : State).setVm s₂.vm), Ls ++ L, c0 + mc, s0 + ms⟩,
      ⟨X.admits, X.cas, X.clock, X.frames, X.room, X.hears, X.method, X.code, (X.here.setHeapUsed s₂.heap s₂.slotsUsed).setVm hW'.alike, X.tail, State.WarmedH.trans X.warmed hW', X.limits, X.bytes, X.same.trans (hsame.setVm s.vm)⟩,
      ⟨g, mk, s₂, L, E, ce, rfl, rfl, hx, hce, hcv, hcl, rfl, hL, rfl, rfl⟩, ?_⟩
    show Steps p.tables e below _ (((({ U with heap := s₂.heap, slotsUsed := s₂.slotsUsed } : State).setVm s₂.vm).setTop g).pushFrame (.throwing q))
    rw [← hs₂]
    exact hsteps
end
variable {p : Program} {l : Launch} {e : Env} {R : Room} {s : State} {m : MethodId} {args : Array Value} {below : List Frame} {meth : Method} {c : Code} {T : State} {H : Heap} {locs : List Loc} {cells slots : Nat}
theorem vx_callVX (X : Stand p l e R s m args below meth c T locs cells slots) (hexec : p.tables.exec = Jvm.exec) {own C : String} {index : Nat} {y : MethodName} {bytes : ByteArray} {maxL : Nat} {ret : Option FieldType} {hh : List (Nat × Nat × Nat × Nat)}
    (hown : s.vm.findClass own = some m.cls) (hlink : (Cond.methodLink own index y).before args s = true) (hinst : (Cond.instanceMethod y).before args s = true) (hsel : (Cond.selects C y y).before args s = true)
    (hcode : (Cond.codeWith y bytes maxL ret hh).before args s = true) (hy : y.cls ≠ "java/lang/invoke/MethodHandle" ∧ y.cls ≠ "java/lang/invoke/VarHandle")
    {W9 : Nat} {Pre : Pt → Array Value → Prop} {Post : Pt → Array Value → Option Value → Pt → Prop} {PostX : Pt → Array Value → Addr → Pt → Prop} (hK : vx_Back l R p e below s args y 3 W9 Pre Post PostX)
    {b : Addr} {cellB : Cell} (hcell : T.heap[b]? = some cellB) (hobj : cellB.vm.isStatics = false) (hcls : s.vm.findClass C = some cellB.cls)
    {g : JFrame} (hg : g.method = m) (hsize : g.locals.size = c.maxLocals) {argsL rest : List Value} (hlen : ∀ sig, parseMethodDescriptor y.desc = some sig → argsL.length = sig.parameters.length)
    (hstack : g.stack = argsL.reverse ++ .ref b :: rest) (hW : 2 * g.monitorRoom + (rest.map fun v => v.category).sum ≤ W9) (hdg : decode c.code g.pc = .ok (.invokevirtual index, 3))
    (hpre : ∀ vm₁, s.WarmedH vm₁ → Pre ⟨T.setVm vm₁, locs, cells, slots⟩ (Value.ref b :: argsL).toArray) :
    (∃ (v : Option Value) (vm₁ : Vm) (B : Pt), s.WarmedH vm₁ ∧ Stand p l e R s m args below meth c B.U B.locs B.cells B.slots ∧ Post ⟨T.setVm vm₁, locs, cells, slots⟩ (Value.ref b :: argsL).toArray v B ∧
      ∀ target, Steps p.tables e below (B.U.setTop { g with pc := g.pc + 3, stack := v.toList ++ rest }) target → Steps p.tables e below (T.setTop g) target) ∨
    (∃ (q : Addr) (vm₁ : Vm) (B : Pt), s.WarmedH vm₁ ∧ Stand p l e R s m args below meth c B.U B.locs B.cells B.slots ∧ PostX ⟨T.setVm vm₁, locs, cells, slots⟩ (Value.ref b :: argsL).toArray q B ∧
      Steps p.tables e below (T.setTop g) ((B.U.setTop { g with stack := rest }).pushFrame (.throwing q))) := by
  obtain ⟨mk, methM, hnamed, hmethM, hstM, habM⟩ := Cond.instanceMethod_spec hinst
  obtain ⟨m8, methM', cM, hn8, hmethM', -, -, -, -, -, -, hsigM⟩ := Cond.codeWith_spec hcode
  cases Option.some.inj (hn8.symm.trans hnamed)
  cases hmethM.symm.trans hmethM'
  obtain ⟨c2, r2, m2, q1, q2, q3, q4, kP, hkP, hkPi⟩ := Cond.selects_spec hsel
  cases hcls.symm.trans q1
  cases (State.methodFound?_of_named hnamed hy).symm.trans q2
  cases hnamed.symm.trans q3
  have hselP : selectMethod e.platform s.vm cellB.cls mk = .method mk := by rw [Launch.admits_selectMethod X.admits]; exact q4
  obtain ⟨vm₁, X₁, hstep₁⟩ := X.invokevirtual hexec hown hlink hnamed hmethM hstM hkP hkPi hy (a := b) (cell := cellB) hcell
    (fun z h => by rw [h] at hobj; cases hobj) hselP hmethM habM hkP hkPi (g := g) hg (argsL := argsL) (rest := rest) (hlen _ hsigM) hstack hdg
  rcases hK m meth c ⟨T.setVm vm₁, locs, cells, slots⟩ { g with stack := rest } (.invokevirtual index) mk (Value.ref b :: argsL).toArray X₁ hg hsize hdg hW (X₁.named hnamed) (hpre vm₁ X₁.warmed) with ⟨v, B, X', hpost, hsteps⟩ | ⟨q, B, X', hpost, hsteps⟩
  · exact Or.inl ⟨v, vm₁, B, X₁.warmed, X', hpost, fun target h => hstep₁ _ fun acts => by rw [doInvoke_state]; exact hsteps.trans h⟩
  · exact Or.inr ⟨q, vm₁, B, X₁.warmed, X', hpost, hstep₁ _ fun acts => by rw [doInvoke_state]; exact hsteps⟩
theorem vx_callSX (X : Stand p l e R s m args below meth c T locs cells slots) (hexec : p.tables.exec = Jvm.exec) {own : String} {index : Nat} {y : MethodName} {bytes : ByteArray} {maxL : Nat} {ret : Option FieldType} {hh : List (Nat × Nat × Nat × Nat)}
    (hown : s.vm.findClass own = some m.cls) (hlink : (Cond.methodLink own index y).before args s = true) (hstat : (Cond.static y).before args s = true) (hinit : (Cond.initialized y.cls).before args s = true)
    (hcode : (Cond.codeWith y bytes maxL ret hh).before args s = true) (hy : y.cls ≠ "java/lang/invoke/MethodHandle" ∧ y.cls ≠ "java/lang/invoke/VarHandle")
    {W9 : Nat} {Pre : Pt → Array Value → Prop} {Post : Pt → Array Value → Option Value → Pt → Prop} {PostX : Pt → Array Value → Addr → Pt → Prop} (hK : vx_Back l R p e below s args y 3 W9 Pre Post PostX)
    {g : JFrame} (hg : g.method = m) (hsize : g.locals.size = c.maxLocals) {argsL rest : List Value} (hlen : ∀ sig, parseMethodDescriptor y.desc = some sig → argsL.length = sig.parameters.length)
    (hstack : g.stack = argsL.reverse ++ rest) (hW : 2 * g.monitorRoom + (rest.map fun v => v.category).sum ≤ W9) (hdg : decode c.code g.pc = .ok (.invokestatic index, 3))
    (hpre : ∀ vm₁, s.WarmedH vm₁ → Pre ⟨T.setVm vm₁, locs, cells, slots⟩ argsL.toArray) :
    (∃ (v : Option Value) (vm₁ : Vm) (B : Pt), s.WarmedH vm₁ ∧ Stand p l e R s m args below meth c B.U B.locs B.cells B.slots ∧ Post ⟨T.setVm vm₁, locs, cells, slots⟩ argsL.toArray v B ∧
      ∀ target, Steps p.tables e below (B.U.setTop { g with pc := g.pc + 3, stack := v.toList ++ rest }) target → Steps p.tables e below (T.setTop g) target) ∨
    (∃ (q : Addr) (vm₁ : Vm) (B : Pt), s.WarmedH vm₁ ∧ Stand p l e R s m args below meth c B.U B.locs B.cells B.slots ∧ PostX ⟨T.setVm vm₁, locs, cells, slots⟩ argsL.toArray q B ∧
      Steps p.tables e below (T.setTop g) ((B.U.setTop { g with stack := rest }).pushFrame (.throwing q))) := by
  obtain ⟨mk, methM, cM, hnamed, hmethM, -, -, -, -, -, -, hsigM⟩ := Cond.codeWith_spec hcode
  have hstatic : methM.isStatic = true := Cond.static_spec hnamed hmethM hstat
  obtain ⟨kP, hkP, -⟩ := className_of_methodNamed hnamed
  have hinitP : kP.init = .initialized := Cond.initialized_spec (findClass_of_methodNamed hnamed) hkP hinit
  obtain ⟨vm₁, X₁, hstep₁⟩ := X.invokestatic hexec hown hlink hnamed hmethM hstatic hkP hinitP hy (g := g) hg (argsL := argsL) (rest := rest) (hlen _ hsigM) hstack hdg
  rcases hK m meth c ⟨T.setVm vm₁, locs, cells, slots⟩ { g with stack := rest } (.invokestatic index) mk argsL.toArray X₁ hg hsize hdg hW (X₁.named hnamed) (hpre vm₁ X₁.warmed) with ⟨v, B, X', hpost, hsteps⟩ | ⟨q, B, X', hpost, hsteps⟩
  · exact Or.inl ⟨v, vm₁, B, X₁.warmed, X', hpost, fun target h => hstep₁ _ fun acts => by rw [doInvoke_state]; exact hsteps.trans h⟩
  · exact Or.inr ⟨q, vm₁, B, X₁.warmed, X', hpost, hstep₁ _ fun acts => by rw [doInvoke_state]; exact hsteps⟩
theorem vx_callVW (X : Stand p l e R s m args below meth c T locs cells slots) (hexec : p.tables.exec = Jvm.exec) {own C : String} {index : Nat} {y : MethodName} {bytes : ByteArray} {maxL : Nat} {ret : Option FieldType} {hh : List (Nat × Nat × Nat × Nat)}
    (hown : s.vm.findClass own = some m.cls) (hlink : (Cond.methodLink own index y).before args s = true) (hinst : (Cond.instanceMethod y).before args s = true) (hsel : (Cond.selects C y y).before args s = true)
    (hcode : (Cond.codeWith y bytes maxL ret hh).before args s = true) (hy : y.cls ≠ "java/lang/invoke/MethodHandle" ∧ y.cls ≠ "java/lang/invoke/VarHandle")
    {W9 : Nat} {Pre : Pt → Array Value → Prop} {Post : Pt → Array Value → Option Value → Pt → Prop} (hK : Back l R p e below s args y 3 W9 Pre Post)
    {b : Addr} {cellB : Cell} (hcell : T.heap[b]? = some cellB) (hobj : cellB.vm.isStatics = false) (hcls : s.vm.findClass C = some cellB.cls)
    {g : JFrame} (hg : g.method = m) (hsize : g.locals.size = c.maxLocals) {argsL rest : List Value} (hlen : ∀ sig, parseMethodDescriptor y.desc = some sig → argsL.length = sig.parameters.length)
    (hstack : g.stack = argsL.reverse ++ .ref b :: rest) (hW : 2 * g.monitorRoom + (rest.map fun v => v.category).sum ≤ W9) (hdg : decode c.code g.pc = .ok (.invokevirtual index, 3))
    (hpre : ∀ vm₁, s.WarmedH vm₁ → Pre ⟨T.setVm vm₁, locs, cells, slots⟩ (Value.ref b :: argsL).toArray) :
    ∃ (v : Option Value) (vm₁ : Vm) (B : Pt), s.WarmedH vm₁ ∧ Stand p l e R s m args below meth c B.U B.locs B.cells B.slots ∧ Post ⟨T.setVm vm₁, locs, cells, slots⟩ (Value.ref b :: argsL).toArray v B ∧
      ∀ target, Steps p.tables e below (B.U.setTop { g with pc := g.pc + 3, stack := v.toList ++ rest }) target → Steps p.tables e below (T.setTop g) target := by
  obtain ⟨mk, methM, hnamed, hmethM, hstM, habM⟩ := Cond.instanceMethod_spec hinst
  obtain ⟨m8, methM', cM, hn8, hmethM', -, -, -, -, -, -, hsigM⟩ := Cond.codeWith_spec hcode
  cases Option.some.inj (hn8.symm.trans hnamed)
  cases hmethM.symm.trans hmethM'
  obtain ⟨c2, r2, m2, q1, q2, q3, q4, kP, hkP, hkPi⟩ := Cond.selects_spec hsel
  cases hcls.symm.trans q1
  cases (State.methodFound?_of_named hnamed hy).symm.trans q2
  cases hnamed.symm.trans q3
  have hselP : selectMethod e.platform s.vm cellB.cls mk = .method mk := by rw [Launch.admits_selectMethod X.admits]; exact q4
  obtain ⟨vm₁, X₁, hstep₁⟩ := X.invokevirtual hexec hown hlink hnamed hmethM hstM hkP hkPi hy (a := b) (cell := cellB) hcell
    (fun z h => by rw [h] at hobj; cases hobj) hselP hmethM habM hkP hkPi (g := g) hg (argsL := argsL) (rest := rest) (hlen _ hsigM) hstack hdg
  obtain ⟨v, B, X', hpost, hsteps⟩ := hK m meth c ⟨T.setVm vm₁, locs, cells, slots⟩ { g with stack := rest } (.invokevirtual index) mk (Value.ref b :: argsL).toArray X₁ hg hsize hdg hW (X₁.named hnamed) (hpre vm₁ X₁.warmed)
  exact ⟨v, vm₁, B, X₁.warmed, X', hpost, fun target h => hstep₁ _ fun acts => by rw [doInvoke_state]; exact hsteps.trans h⟩
abbrev vx_CVW (R : Room) (s : State) (args : Array Value) (own C : String) (index : Nat) (y : MethodName) (bytes : ByteArray) (maxL : Nat) (ret : Option FieldType) (hh : List (Nat × Nat × Nat × Nat)) (ws : List Cond) (rm : Room) (mc ms n : Nat) : Prop :=
  (rm.cells = mc ∧ rm.slots = ms ∧ rm.frames + 1 ≤ R.frames ∧ 8 + (maxL + 11) + rm.locals ≤ R.locals ∧ (∀ w ∈ ws, ∀ (a' : Array Value) (U : State), s.WarmedH U.vm → w.before a' U = true) ∧ Cond.codeWith y bytes maxL ret hh ∈ ws) ∧
  (Cond.codeWith y bytes maxL ret hh).before args s = true ∧ (Cond.initialized y.cls).before args s = true ∧ (y.cls ≠ "java/lang/invoke/MethodHandle" ∧ y.cls ≠ "java/lang/invoke/VarHandle") ∧
  (∀ sig, parseMethodDescriptor y.desc = some sig → n = sig.parameters.length) ∧ (Cond.methodLink own index y).before args s = true ∧ (Cond.instanceMethod y).before args s = true ∧ (Cond.selects C y y).before args s = true
theorem vx_cwVW {own C : String} {index maxL mc ms : Nat} {y : MethodName} {bytes : ByteArray} {ret : Option FieldType} {hh : List (Nat × Nat × Nat × Nat)} {Ts ws ws' : List Cond} {rm : Room} (n : Nat) (ht : ∀ w ∈ Ts, w.before args s = true) (hT : GoodIn Ts (wsV own index C y ws)) (hw : ws = Cond.codeWith y bytes maxL ret hh :: ws') (hrc : rm.cells = mc) (hrs : rm.slots = ms)
    (hd : y.cls = C ∧ y.cls ≠ "java/lang/invoke/MethodHandle" ∧ y.cls ≠ "java/lang/invoke/VarHandle" ∧ (parseMethodDescriptor y.desc).map (fun d => d.parameters.length) = some n) (hR : rm.frames + 1 ≤ R.frames ∧ 8 + (maxL + 11) + rm.locals ≤ R.locals) :
    vx_CVW R s args own C index y bytes maxL ret hh ws rm mc ms n := by
  obtain ⟨hC, hd⟩ := hd
  subst hC
  have ok : ∀ w ∈ wsV own index y.cls y ws, w.before args s = true := fun w h => ht w (hT w h).1
  have hG : GoodIn Ts ws := fun w h => hT w (by unfold wsV; exact List.mem_append_right _ h)
  have hc : Cond.codeWith y bytes maxL ret hh ∈ ws := by rw [hw]; exact List.mem_cons_self
  refine ⟨⟨hrc, hrs, hR.1, hR.2, pay_in ht hG, hc⟩, ht _ (hG _ hc).1, ok _ (by simp [wsV]), ⟨hd.1, hd.2.1⟩, fun sig h => ?_, ok _ (by simp [wsV]), ok _ (by simp [wsV]), ok _ (by simp [wsV])⟩
  have h2 := hd.2.2
  rw [h] at h2
  exact (Option.some.inj h2).symm
theorem vx_runVW {y : MethodName} {bytes cc : ByteArray} {maxL nL mc ms n index : Nat} {ret : Option FieldType} {hh : List (Nat × Nat × Nat × Nat)} {ws : List Cond} {rm : Room} {Pc : Array Value → State → Prop} {Qc : Array Value → State → Outcome → State → Prop} {free : Addr → Prop} {Ts : List Cond} {own C : String} {b : Addr} {As rest : List Value} {g : JFrame}
    (S : CallFix p m c cc nL s args Ts own) (hM : Met l y ws rm Pc Qc mc ms free) (cw : vx_CVW R s args own C index y bytes maxL ret hh ws rm mc ms n) (hp : PreV s H C b Pc As)
    (hg : g.method = m) (hn : As.length = n) (hsize : g.locals.size = nL) (hstack : g.stack = As.reverse ++ .ref b :: rest) (hW : 2 * g.monitorRoom + (rest.map fun v => v.category).sum ≤ 8) (hdg : decode cc g.pc = .ok (.invokevirtual index, 3)) (hf : cells + mc ≤ R.cells ∧ slots + ms ≤ R.slots) :
    va_Run p l e R s m args below meth c H locs cells slots mc ms g rest (Qc (Value.ref b :: As).toArray) free := by
  obtain ⟨⟨hrc, hrs, hfr, hlo, hws, hcw⟩, hcode, hini, hy, hlen, hl, hin, hse⟩ := cw
  have hK : Back l R p e below s args y 3 8 (PreOf R mc ms Pc) (PostOf Qc mc ms free) := va_backW (hh := hh) (bytes := bytes) (maxL := maxL) (ret := ret) hM hp.1 hrc hrs hfr hlo hws hcw (fun a' U hW => word_at hW (Or.inl (by first | rfl | simp [Cond.onTables, Cond.keeps, Cond.steady])) hini)
  obtain ⟨hx, hb, hml, ho, -⟩ := S
  obtain ⟨-, ⟨cellB, hcB, hoB, hclB⟩, hPc⟩ := hp
  intro T hT X
  obtain ⟨v, vm₁, ⟨U', l2, c2, s2⟩, hW₁, X', ⟨g', mk, t, L, e1, e2, hq, h1, hL, h2, h3⟩, st⟩ := vx_callVW X hx (C := C) (hh := hh) (bytes := bytes) (maxL := maxL) (ret := ret) ho hl hin hse hcode hy hK (by rw [hT]; exact hcB) hoB hclB hg (hsize.trans hml.symm) (argsL := As) (rest := rest) (fun sig h => hn.trans (hlen sig h)) hstack hW (by rw [hb]; exact hdg)
    (fun vm₁ hW₁ => ⟨hf.1, hf.2, hPc (T.setVm vm₁) hT hW₁⟩)
  dsimp only [Pt.U, Pt.locs, Pt.cells, Pt.slots] at X' e1 e2 h1 h2 h3 st
  subst h1; subst h2; subst h3
  exact ⟨v, (T.setVm vm₁).calling g' mk (Value.ref b :: As).toArray, t, U', L, hT, X', hL, e1, e2, hq, st⟩
section
variable {y : MethodName} {bytes cc : ByteArray} {maxL nL mc ms n index : Nat} {ret : Option FieldType} {ws : List Cond} {rm : Room} {Pc : Array Value → State → Prop} {Qc : Array Value → State → Outcome → State → Prop} {XC : String → State → State → Prop} {free : Addr → Prop} {Ts : List Cond} {own C : String} {b : Addr} {As rest : List Value} {g : JFrame}
theorem vx_runVX {hh : List (Nat × Nat × Nat × Nat)} (S : CallFix p m c cc nL s args Ts own) (hM : vx_Met l y ws rm Pc Qc XC mc ms free) (cw : vx_CVW R s args own C index y bytes maxL ret hh ws rm mc ms n) (hp : PreV s H C b Pc As)
    (hg : g.method = m) (hn : As.length = n) (hsize : g.locals.size = nL) (hstack : g.stack = As.reverse ++ .ref b :: rest) (hW : 2 * g.monitorRoom + (rest.map fun v => v.category).sum ≤ 8) (hdg : decode cc g.pc = .ok (.invokevirtual index, 3)) (hf : cells + mc ≤ R.cells ∧ slots + ms ≤ R.slots) :
    vx_Run p l e R s m args below meth c H locs cells slots mc ms g rest (Qc (Value.ref b :: As).toArray) XC free := by
  obtain ⟨⟨hrc, hrs, hfr, hlo, hws, hcw⟩, hcode, hini, hy, hlen, hl, hin, hse⟩ := cw
  have hK : vx_Back l R p e below s args y 3 8 (PreOf R mc ms Pc) (PostOf Qc mc ms free) (vx_Post XC mc ms free) := vx_backW (hh := hh) (bytes := bytes) (maxL := maxL) (ret := ret) hM hp.1 hrc hrs hfr hlo hws hcw (fun a' U hW => word_at hW (Or.inl (by first | rfl | simp [Cond.onTables, Cond.keeps, Cond.steady])) hini)
  obtain ⟨hx, hb, hml, ho, -⟩ := S
  obtain ⟨-, ⟨cellB, hcB, hoB, hclB⟩, hPc⟩ := hp
  intro T hT X
  rcases vx_callVX X hx (C := C) (hh := hh) (bytes := bytes) (maxL := maxL) (ret := ret) ho hl hin hse hcode hy hK (by rw [hT]; exact hcB) hoB hclB hg (hsize.trans hml.symm) (argsL := As) (rest := rest) (fun sig h => hn.trans (hlen sig h)) hstack hW (by rw [hb]; exact hdg)
    (fun vm₁ hW₁ => ⟨hf.1, hf.2, hPc (T.setVm vm₁) hT hW₁⟩) with ⟨v, vm₁, ⟨U', l2, c2, s2⟩, hW₁, X', ⟨g', mk, t, L, e1, e2, hq, h1, hL, h2, h3⟩, st⟩ | ⟨q, vm₁, ⟨U', l2, c2, s2⟩, hW₁, X', ⟨g', mk, t, L, E, ce, e1, e2, hq, hce, hcv, hcl, h1, hL, h2, h3⟩, st⟩
  · dsimp only [Pt.U, Pt.locs, Pt.cells, Pt.slots] at X' e1 e2 h1 h2 h3 st
    subst h1; subst h2; subst h3
    exact Or.inl ⟨v, (T.setVm vm₁).calling g' mk (Value.ref b :: As).toArray, t, U', L, hT, X', hL, e1, e2, hq, st⟩
  · dsimp only [Pt.U, Pt.locs, Pt.cells, Pt.slots] at X' e1 e2 h1 h2 h3 st hcl
    subst h1; subst h2; subst h3
    exact Or.inr ⟨q, (T.setVm vm₁).calling g' mk (Value.ref b :: As).toArray, t, U', L, E, ce, hT, X', hL, e1, e2, hq, hce, hcv, vx_cls hW₁ hcl, st⟩
theorem vx_runSX {hh : List (Nat × Nat × Nat × Nat)} (S : CallFix p m c cc nL s args Ts own) (hM : vx_Met l y ws rm Pc Qc XC mc ms free) (cw : vx_CSW R s args own index y bytes maxL ret hh ws rm mc ms n) (hp : PreS s H Pc As)
    (hg : g.method = m) (hn : As.length = n) (hsize : g.locals.size = nL) (hstack : g.stack = As.reverse ++ rest) (hW : 2 * g.monitorRoom + (rest.map fun v => v.category).sum ≤ 8) (hdg : decode cc g.pc = .ok (.invokestatic index, 3)) (hf : cells + mc ≤ R.cells ∧ slots + ms ≤ R.slots) :
    vx_Run p l e R s m args below meth c H locs cells slots mc ms g rest (Qc As.toArray) XC free := by
  obtain ⟨⟨hrc, hrs, hfr, hlo, hws, hcw⟩, hcode, hini, hy, hlen, hl, hstt⟩ := cw
  have hK : vx_Back l R p e below s args y 3 8 (PreOf R mc ms Pc) (PostOf Qc mc ms free) (vx_Post XC mc ms free) := vx_backW (hh := hh) (bytes := bytes) (maxL := maxL) (ret := ret) hM hp.1 hrc hrs hfr hlo hws hcw (fun a' U hW => word_at hW (Or.inl (by first | rfl | simp [Cond.onTables, Cond.keeps, Cond.steady])) hini)
  obtain ⟨hx, hb, hml, ho, -⟩ := S
  intro T hT X
  rcases vx_callSX X hx (hh := hh) (bytes := bytes) (maxL := maxL) (ret := ret) ho hl hstt hini hcode hy hK hg (hsize.trans hml.symm) (argsL := As) (rest := rest) (fun sig h => hn.trans (hlen sig h)) hstack hW (by rw [hb]; exact hdg)
    (fun vm₁ hW₁ => ⟨hf.1, hf.2, hp.2 (T.setVm vm₁) hT hW₁⟩) with ⟨v, vm₁, ⟨U', l2, c2, s2⟩, hW₁, X', ⟨g', mk, t, L, e1, e2, hq, h1, hL, h2, h3⟩, st⟩ | ⟨q, vm₁, ⟨U', l2, c2, s2⟩, hW₁, X', ⟨g', mk, t, L, E, ce, e1, e2, hq, hce, hcv, hcl, h1, hL, h2, h3⟩, st⟩
  · dsimp only [Pt.U, Pt.locs, Pt.cells, Pt.slots] at X' e1 e2 h1 h2 h3 st
    subst h1; subst h2; subst h3
    exact Or.inl ⟨v, (T.setVm vm₁).calling g' mk As.toArray, t, U', L, hT, X', hL, e1, e2, hq, st⟩
  · dsimp only [Pt.U, Pt.locs, Pt.cells, Pt.slots] at X' e1 e2 h1 h2 h3 st hcl
    subst h1; subst h2; subst h3
    exact Or.inr ⟨q, (T.setVm vm₁).calling g' mk As.toArray, t, U', L, E, ce, hT, X', hL, e1, e2, hq, hce, hcv, vx_cls hW₁ hcl, st⟩
end
end VXH
theorem vx_ofWH {l : Launch} {y : MethodName} {ws ws' : List Cond} {rm : Room} {Pc : Array Value → State → Prop} {Qc : Array Value → State → Outcome → State → Prop} {XC : String → State → State → Prop} {mc ms : Nat} {free : Addr → Prop} {cc : ByteArray} {maxL : Nat} {ret : Option FieldType} {hh : List (Nat × Nat × Nat × Nat)}
    (hy : plainName y.cls = true) (hw : ws = Cond.codeWith y cc maxL ret hh :: ws')
    (body : ∀ p e s m args below meth c s₁, BodyLoose p l y (headSpec ws rm) cc maxL ret e s m args below meth c s₁ → c.maxLocals = maxL → Pc args s →
      W p l e (headSpec ws rm).room s m args below meth c s.heap [] 0 0 (vx_MQ below Qc XC args s mc ms free) (entryFrame m args maxL)) : vx_Met l y ws rm Pc Qc XC mc ms free := by
  refine MetFree.of_bodyS (code := cc) (maxLocals := maxL) (ret := ret) hy ?_ ?_
  · intro args s m h hn
    obtain ⟨m9, meth, c, hn9, h1, h2, h3, h4, -, h5, h6, -⟩ := Cond.codeWith_spec (atoms_spec (ws := ws) h _ (by rw [hw]; exact List.mem_cons_self))
    cases hn.symm.trans hn9
    exact ⟨meth, c, h1, h2, h3, h4, h5, h6⟩
  · intro p e s m args below meth c s₁ B hml hP _
    have hh0 : s₁.heap = s.heap := by rw [B.state]; rfl
    obtain ⟨t, a1, o, b1, b2, b3⟩ := body p e s m args below meth c s₁ B hml hP s₁ hh0 (Stand.of_body B)
    exact ⟨t, o, a1, b1, b2, b3⟩
/-! ===== END ===== -/
end
section
/-! ===== BEGIN printed: names, fields, word lists, decode rows ===== -/
def RX0 : String := "PreferenceTable$Fleet"
def TX0 : u_T := fun k => match k with
  | 0 => ("PreferenceTable$Fleet", "names", "[I", true)
  | 1 => ("PreferenceTable$Fleet", "weights", "[I", true)
  | 2 => ("PreferenceTable$Fleet", "ups", "[Z", true)
  | _ => ("PreferenceTable$Fleet", "loads", "[J", true)
def tyX0 : Nat → FieldType := fun k => match k with
  | 0 => .array .int
  | 1 => .array .int
  | 2 => .array .boolean
  | _ => .array .long
abbrev wsX00 : List Cond := u_ws RX0 TX0 4
theorem nmX0 : ∀ a, a < 4 → ∀ b, b < 4 → a ≠ b → (TX0 a).2.1 ≠ (TX0 b).2.1 := by decide +kernel
theorem tyX0_ok : ∀ k, k < 4 → parseFieldDescriptor (TX0 k).2.2.1 = some (tyX0 k) := by decide +kernel
abbrev cX0_init : ByteArray := prog_2_method_1_code
def yX0_init : MethodName := ⟨RX0, "<init>", "()V"⟩
abbrev cX0_clear : ByteArray := prog_2_method_2_code
def yX0_clear : MethodName := ⟨RX0, "clear", "()V"⟩
abbrev cX0_copyFrom : ByteArray := prog_2_method_3_code
def yX0_copyFrom : MethodName := ⟨RX0, "copyFrom", "(LPreferenceTable$Fleet;)V"⟩
abbrev cX0_isNumber : ByteArray := prog_2_method_4_code
def yX0_isNumber : MethodName := ⟨RX0, "isNumber", "(I)Z"⟩
abbrev cX0_has : ByteArray := prog_2_method_5_code
def yX0_has : MethodName := ⟨RX0, "has", "(I)Z"⟩
abbrev cX0_isUp : ByteArray := prog_2_method_6_code
def yX0_isUp : MethodName := ⟨RX0, "isUp", "(I)Z"⟩
abbrev cX0_name : ByteArray := prog_2_method_7_code
def yX0_name : MethodName := ⟨RX0, "name", "(I)I"⟩
abbrev cX0_weight : ByteArray := prog_2_method_8_code
def yX0_weight : MethodName := ⟨RX0, "weight", "(I)I"⟩
abbrev cX0_load : ByteArray := prog_2_method_9_code
def yX0_load : MethodName := ⟨RX0, "load", "(I)J"⟩
abbrev cX0_put : ByteArray := prog_2_method_10_code
def yX0_put : MethodName := ⟨RX0, "put", "(III)V"⟩
abbrev cX0_drop : ByteArray := prog_2_method_11_code
def yX0_drop : MethodName := ⟨RX0, "drop", "(I)V"⟩
abbrev cX0_changeWeight : ByteArray := prog_2_method_12_code
def yX0_changeWeight : MethodName := ⟨RX0, "changeWeight", "(II)V"⟩
abbrev cX0_changeUp : ByteArray := prog_2_method_13_code
def yX0_changeUp : MethodName := ⟨RX0, "changeUp", "(IZ)V"⟩
abbrev cX0_addLoad : ByteArray := prog_2_method_14_code
def yX0_addLoad : MethodName := ⟨RX0, "addLoad", "(II)V"⟩
abbrev cX0_size : ByteArray := prog_2_method_15_code
def yX0_size : MethodName := ⟨RX0, "size", "()I"⟩
abbrev cX0_upCount : ByteArray := prog_2_method_16_code
def yX0_upCount : MethodName := ⟨RX0, "upCount", "()I"⟩
abbrev cX0_find : ByteArray := prog_2_method_17_code
def yX0_find : MethodName := ⟨RX0, "find", "(I)I"⟩
abbrev cX0_lowestFree : ByteArray := prog_2_method_18_code
def yX0_lowestFree : MethodName := ⟨RX0, "lowestFree", "()I"⟩
abbrev cX0_weightSum : ByteArray := prog_2_method_19_code
def yX0_weightSum : MethodName := ⟨RX0, "weightSum", "()I"⟩
abbrev cX0_greatestWeightWithout : ByteArray := prog_2_method_20_code
def yX0_greatestWeightWithout : MethodName := ⟨RX0, "greatestWeightWithout", "(I)I"⟩
abbrev cX0_ranked : ByteArray := prog_2_method_21_code
def yX0_ranked : MethodName := ⟨RX0, "ranked", "(I)I"⟩
abbrev cX0_countBefore : ByteArray := prog_2_method_22_code
def yX0_countBefore : MethodName := ⟨RX0, "countBefore", "(I)I"⟩
abbrev cX0_ranksBefore : ByteArray := prog_2_method_23_code
def yX0_ranksBefore : MethodName := ⟨RX0, "ranksBefore", "(II)Z"⟩
def RX1 : String := "PreferenceTable$History"
def TX1 : u_T := fun k => match k with
  | 0 => ("PreferenceTable$History", "snapshots", "[LPreferenceTable$Snapshot;", true)
  | _ => ("PreferenceTable$History", "size", "I", false)
def tyX1 : Nat → FieldType := fun k => match k with
  | 0 => .array (.object "PreferenceTable$Snapshot")
  | _ => .int
abbrev wsX10 : List Cond := u_ws RX1 TX1 2
theorem nmX1 : ∀ a, a < 2 → ∀ b, b < 2 → a ≠ b → (TX1 a).2.1 ≠ (TX1 b).2.1 := by decide +kernel
theorem tyX1_ok : ∀ k, k < 2 → parseFieldDescriptor (TX1 k).2.2.1 = some (tyX1 k) := by decide +kernel
abbrev cX1_init : ByteArray := prog_3_method_1_code
def yX1_init : MethodName := ⟨RX1, "<init>", "()V"⟩
abbrev cX1_clear : ByteArray := prog_3_method_2_code
def yX1_clear : MethodName := ⟨RX1, "clear", "()V"⟩
abbrev cX1_size : ByteArray := prog_3_method_3_code
def yX1_size : MethodName := ⟨RX1, "size", "()I"⟩
abbrev cX1_remember : ByteArray := prog_3_method_4_code
def yX1_remember : MethodName := ⟨RX1, "remember", "(LPreferenceTable$Fleet;LPreferenceTable$Pins;)V"⟩
abbrev cX1_bringBack : ByteArray := prog_3_method_5_code
def yX1_bringBack : MethodName := ⟨RX1, "bringBack", "(LPreferenceTable$Fleet;LPreferenceTable$Pins;)V"⟩
def RX2 : String := "PreferenceTable$Pins"
def TX2 : u_T := fun k => match k with
  | 0 => ("PreferenceTable$Pins", "keys", "[I", true)
  | 1 => ("PreferenceTable$Pins", "servers", "[I", true)
  | _ => ("PreferenceTable$Pins", "size", "I", false)
def tyX2 : Nat → FieldType := fun k => match k with
  | 0 => .array .int
  | 1 => .array .int
  | _ => .int
abbrev wsX20 : List Cond := u_ws RX2 TX2 3
theorem nmX2 : ∀ a, a < 3 → ∀ b, b < 3 → a ≠ b → (TX2 a).2.1 ≠ (TX2 b).2.1 := by decide +kernel
theorem tyX2_ok : ∀ k, k < 3 → parseFieldDescriptor (TX2 k).2.2.1 = some (tyX2 k) := by decide +kernel
abbrev cX2_init : ByteArray := prog_4_method_1_code
def yX2_init : MethodName := ⟨RX2, "<init>", "()V"⟩
abbrev cX2_clear : ByteArray := prog_4_method_2_code
def yX2_clear : MethodName := ⟨RX2, "clear", "()V"⟩
abbrev cX2_copyFrom : ByteArray := prog_4_method_3_code
def yX2_copyFrom : MethodName := ⟨RX2, "copyFrom", "(LPreferenceTable$Pins;)V"⟩
abbrev cX2_size : ByteArray := prog_4_method_4_code
def yX2_size : MethodName := ⟨RX2, "size", "()I"⟩
abbrev cX2_server : ByteArray := prog_4_method_5_code
def yX2_server : MethodName := ⟨RX2, "server", "(I)I"⟩
abbrev cX2_put : ByteArray := prog_4_method_6_code
def yX2_put : MethodName := ⟨RX2, "put", "(II)V"⟩
abbrev cX2_drop : ByteArray := prog_4_method_7_code
def yX2_drop : MethodName := ⟨RX2, "drop", "(I)V"⟩
abbrev cX2_dropServer : ByteArray := prog_4_method_8_code
def yX2_dropServer : MethodName := ⟨RX2, "dropServer", "(I)V"⟩
abbrev cX2_append : ByteArray := prog_4_method_9_code
def yX2_append : MethodName := ⟨RX2, "append", "(II)V"⟩
def RX3 : String := "PreferenceTable$SlotTable"
def TX3 : u_T := fun k => match k with
  | 0 => ("PreferenceTable$SlotTable", "size", "I", false)
  | 1 => ("PreferenceTable$SlotTable", "owners", "[I", false)
  | 2 => ("PreferenceTable$SlotTable", "draft", "[I", false)
  | 3 => ("PreferenceTable$SlotTable", "triedPreferences", "[I", true)
  | 4 => ("PreferenceTable$SlotTable", "changedSlots", "I", false)
  | _ => ("PreferenceTable$SlotTable", "forcedSlots", "I", false)
def tyX3 : Nat → FieldType := fun k => match k with
  | 0 => .int
  | 1 => .array .int
  | 2 => .array .int
  | 3 => .array .int
  | 4 => .int
  | _ => .int
abbrev wsX30 : List Cond := u_ws RX3 TX3 6
theorem nmX3 : ∀ a, a < 6 → ∀ b, b < 6 → a ≠ b → (TX3 a).2.1 ≠ (TX3 b).2.1 := by decide +kernel
theorem tyX3_ok : ∀ k, k < 6 → parseFieldDescriptor (TX3 k).2.2.1 = some (tyX3 k) := by decide +kernel
abbrev cX3_init : ByteArray := prog_5_method_1_code
def yX3_init : MethodName := ⟨RX3, "<init>", "(I)V"⟩
abbrev cX3_startAnew : ByteArray := prog_5_method_2_code
def yX3_startAnew : MethodName := ⟨RX3, "startAnew", "(I)V"⟩
abbrev cX3_size : ByteArray := prog_5_method_3_code
def yX3_size : MethodName := ⟨RX3, "size", "()I"⟩
abbrev cX3_isSlot : ByteArray := prog_5_method_4_code
def yX3_isSlot : MethodName := ⟨RX3, "isSlot", "(I)Z"⟩
abbrev cX3_owner : ByteArray := prog_5_method_5_code
def yX3_owner : MethodName := ⟨RX3, "owner", "(I)I"⟩
abbrev cX3_changedSlots : ByteArray := prog_5_method_6_code
def yX3_changedSlots : MethodName := ⟨RX3, "changedSlots", "()I"⟩
abbrev cX3_forcedSlots : ByteArray := prog_5_method_7_code
def yX3_forcedSlots : MethodName := ⟨RX3, "forcedSlots", "()I"⟩
abbrev cX3_ownedBy : ByteArray := prog_5_method_8_code
def yX3_ownedBy : MethodName := ⟨RX3, "ownedBy", "(I)I"⟩
abbrev cX3_slotOfKey : ByteArray := prog_5_method_9_code
def yX3_slotOfKey : MethodName := ⟨RX3, "slotOfKey", "(I)I"⟩
abbrev cX3_preferredSlot : ByteArray := prog_5_method_10_code
def yX3_preferredSlot : MethodName := ⟨RX3, "preferredSlot", "(II)I"⟩
abbrev cX3_rebuild : ByteArray := prog_5_method_11_code
def yX3_rebuild : MethodName := ⟨RX3, "rebuild", "(LPreferenceTable$Fleet;)V"⟩
abbrev cX3_changedWithout : ByteArray := prog_5_method_12_code
def yX3_changedWithout : MethodName := ⟨RX3, "changedWithout", "(LPreferenceTable$Fleet;I)I"⟩
abbrev cX3_countChanged : ByteArray := prog_5_method_13_code
def yX3_countChanged : MethodName := ⟨RX3, "countChanged", "()I"⟩
abbrev cX3_countForced : ByteArray := prog_5_method_14_code
def yX3_countForced : MethodName := ⟨RX3, "countForced", "(LPreferenceTable$Fleet;)I"⟩
abbrev cX3_draw : ByteArray := prog_5_method_15_code
def yX3_draw : MethodName := ⟨RX3, "draw", "(LPreferenceTable$Fleet;I)V"⟩
abbrev cX3_hasTurn : ByteArray := prog_5_method_16_code
def yX3_hasTurn : MethodName := ⟨RX3, "hasTurn", "(III)Z"⟩
abbrev cX3_claim : ByteArray := prog_5_method_17_code
def yX3_claim : MethodName := ⟨RX3, "claim", "(II)Z"⟩
def RX4 : String := "PreferenceTable$Snapshot"
def TX4 : u_T := fun k => match k with
  | 0 => ("PreferenceTable$Snapshot", "fleet", "LPreferenceTable$Fleet;", true)
  | _ => ("PreferenceTable$Snapshot", "pins", "LPreferenceTable$Pins;", true)
def tyX4 : Nat → FieldType := fun k => match k with
  | 0 => .object "PreferenceTable$Fleet"
  | _ => .object "PreferenceTable$Pins"
abbrev wsX40 : List Cond := u_ws RX4 TX4 2
theorem nmX4 : ∀ a, a < 2 → ∀ b, b < 2 → a ≠ b → (TX4 a).2.1 ≠ (TX4 b).2.1 := by decide +kernel
theorem tyX4_ok : ∀ k, k < 2 → parseFieldDescriptor (TX4 k).2.2.1 = some (tyX4 k) := by decide +kernel
abbrev cX4_init : ByteArray := prog_6_method_1_code
def yX4_init : MethodName := ⟨RX4, "<init>", "()V"⟩
abbrev cX4_take : ByteArray := prog_6_method_2_code
def yX4_take : MethodName := ⟨RX4, "take", "(LPreferenceTable$Fleet;LPreferenceTable$Pins;)V"⟩
abbrev cX4_give : ByteArray := prog_6_method_3_code
def yX4_give : MethodName := ⟨RX4, "give", "(LPreferenceTable$Fleet;LPreferenceTable$Pins;)V"⟩
def RX5 : String := "PreferenceTable$Tracker"
def TX5 : u_T := fun k => match k with
  | 0 => ("PreferenceTable$Tracker", "keys", "[I", true)
  | 1 => ("PreferenceTable$Tracker", "counts", "[J", true)
  | 2 => ("PreferenceTable$Tracker", "errors", "[J", true)
  | _ => ("PreferenceTable$Tracker", "size", "I", false)
def tyX5 : Nat → FieldType := fun k => match k with
  | 0 => .array .int
  | 1 => .array .long
  | 2 => .array .long
  | _ => .int
abbrev wsX50 : List Cond := u_ws RX5 TX5 4
theorem nmX5 : ∀ a, a < 4 → ∀ b, b < 4 → a ≠ b → (TX5 a).2.1 ≠ (TX5 b).2.1 := by decide +kernel
theorem tyX5_ok : ∀ k, k < 4 → parseFieldDescriptor (TX5 k).2.2.1 = some (tyX5 k) := by decide +kernel
abbrev cX5_init : ByteArray := prog_7_method_1_code
def yX5_init : MethodName := ⟨RX5, "<init>", "()V"⟩
abbrev cX5_clear : ByteArray := prog_7_method_2_code
def yX5_clear : MethodName := ⟨RX5, "clear", "()V"⟩
abbrev cX5_size : ByteArray := prog_7_method_3_code
def yX5_size : MethodName := ⟨RX5, "size", "()I"⟩
abbrev cX5_has : ByteArray := prog_7_method_4_code
def yX5_has : MethodName := ⟨RX5, "has", "(I)Z"⟩
abbrev cX5_key : ByteArray := prog_7_method_5_code
def yX5_key : MethodName := ⟨RX5, "key", "(I)I"⟩
abbrev cX5_counted : ByteArray := prog_7_method_6_code
def yX5_counted : MethodName := ⟨RX5, "counted", "(I)J"⟩
abbrev cX5_error : ByteArray := prog_7_method_7_code
def yX5_error : MethodName := ⟨RX5, "error", "(I)J"⟩
abbrev cX5_count : ByteArray := prog_7_method_8_code
def yX5_count : MethodName := ⟨RX5, "count", "(II)V"⟩
abbrev cX5_find : ByteArray := prog_7_method_9_code
def yX5_find : MethodName := ⟨RX5, "find", "(I)I"⟩
abbrev cX5_append : ByteArray := prog_7_method_10_code
def yX5_append : MethodName := ⟨RX5, "append", "(I)I"⟩
abbrev cX5_replaceLeast : ByteArray := prog_7_method_11_code
def yX5_replaceLeast : MethodName := ⟨RX5, "replaceLeast", "(I)I"⟩
abbrev cX5_least : ByteArray := prog_7_method_12_code
def yX5_least : MethodName := ⟨RX5, "least", "()I"⟩
abbrev cX5_moveForward : ByteArray := prog_7_method_13_code
def yX5_moveForward : MethodName := ⟨RX5, "moveForward", "(I)V"⟩
abbrev cX5_isListedBefore : ByteArray := prog_7_method_14_code
def yX5_isListedBefore : MethodName := ⟨RX5, "isListedBefore", "(II)Z"⟩
abbrev cX5_swap : ByteArray := prog_7_method_15_code
def yX5_swap : MethodName := ⟨RX5, "swap", "(II)V"⟩
def RX6 : String := "PreferenceTable"
def TX6 : u_T := fun k => match k with
  | 0 => ("PreferenceTable", "fleet", "LPreferenceTable$Fleet;", true)
  | 1 => ("PreferenceTable", "pins", "LPreferenceTable$Pins;", true)
  | 2 => ("PreferenceTable", "table", "LPreferenceTable$SlotTable;", true)
  | 3 => ("PreferenceTable", "tracker", "LPreferenceTable$Tracker;", true)
  | _ => ("PreferenceTable", "history", "LPreferenceTable$History;", true)
def tyX6 : Nat → FieldType := fun k => match k with
  | 0 => .object "PreferenceTable$Fleet"
  | 1 => .object "PreferenceTable$Pins"
  | 2 => .object "PreferenceTable$SlotTable"
  | 3 => .object "PreferenceTable$Tracker"
  | _ => .object "PreferenceTable$History"
abbrev wsX60 : List Cond := u_ws RX6 TX6 5
theorem nmX6 : ∀ a, a < 5 → ∀ b, b < 5 → a ≠ b → (TX6 a).2.1 ≠ (TX6 b).2.1 := by decide +kernel
theorem tyX6_ok : ∀ k, k < 5 → parseFieldDescriptor (TX6 k).2.2.1 = some (tyX6 k) := by decide +kernel
abbrev cX6_init : ByteArray := prog_1_method_1_code
def yX6_init : MethodName := ⟨RX6, "<init>", "()V"⟩
abbrev cX6_reset : ByteArray := prog_1_method_2_code
def yX6_reset : MethodName := ⟨RX6, "reset", "(I)I"⟩
abbrev cX6_serverAt : ByteArray := prog_1_method_3_code
def yX6_serverAt : MethodName := ⟨RX6, "serverAt", "(I)I"⟩
abbrev cX6_disruption : ByteArray := prog_1_method_4_code
def yX6_disruption : MethodName := ⟨RX6, "disruption", "()I"⟩
abbrev cX6_forcedDisruption : ByteArray := prog_1_method_5_code
def yX6_forcedDisruption : MethodName := ⟨RX6, "forcedDisruption", "()I"⟩
abbrev cX6_imbalance : ByteArray := prog_1_method_6_code
def yX6_imbalance : MethodName := ⟨RX6, "imbalance", "()D"⟩
abbrev cX6_addServer : ByteArray := prog_1_method_7_code
def yX6_addServer : MethodName := ⟨RX6, "addServer", "(II)I"⟩
abbrev cX6_removeServer : ByteArray := prog_1_method_8_code
def yX6_removeServer : MethodName := ⟨RX6, "removeServer", "(I)J"⟩
abbrev cX6_setWeight : ByteArray := prog_1_method_9_code
def yX6_setWeight : MethodName := ⟨RX6, "setWeight", "(II)I"⟩
abbrev cX6_setUp : ByteArray := prog_1_method_10_code
def yX6_setUp : MethodName := ⟨RX6, "setUp", "(IZ)Z"⟩
abbrev cX6_serverCount : ByteArray := prog_1_method_11_code
def yX6_serverCount : MethodName := ⟨RX6, "serverCount", "()I"⟩
abbrev cX6_serverNamed : ByteArray := prog_1_method_12_code
def yX6_serverNamed : MethodName := ⟨RX6, "serverNamed", "(I)I"⟩
abbrev cX6_preference : ByteArray := prog_1_method_13_code
def yX6_preference : MethodName := ⟨RX6, "preference", "(II)I"⟩
abbrev cX6_slotsOf : ByteArray := prog_1_method_14_code
def yX6_slotsOf : MethodName := ⟨RX6, "slotsOf", "(I)I"⟩
abbrev cX6_idealShare : ByteArray := prog_1_method_15_code
def yX6_idealShare : MethodName := ⟨RX6, "idealShare", "(I)D"⟩
abbrev cX6_removalDisruption : ByteArray := prog_1_method_16_code
def yX6_removalDisruption : MethodName := ⟨RX6, "removalDisruption", "(I)I"⟩
abbrev cX6_serverOf : ByteArray := prog_1_method_17_code
def yX6_serverOf : MethodName := ⟨RX6, "serverOf", "(I)I"⟩
abbrev cX6_request : ByteArray := prog_1_method_18_code
def yX6_request : MethodName := ⟨RX6, "request", "(II)I"⟩
abbrev cX6_loadOf : ByteArray := prog_1_method_19_code
def yX6_loadOf : MethodName := ⟨RX6, "loadOf", "(I)J"⟩
abbrev cX6_rankedServer : ByteArray := prog_1_method_20_code
def yX6_rankedServer : MethodName := ⟨RX6, "rankedServer", "(I)I"⟩
abbrev cX6_pin : ByteArray := prog_1_method_21_code
def yX6_pin : MethodName := ⟨RX6, "pin", "(II)I"⟩
abbrev cX6_unpin : ByteArray := prog_1_method_22_code
def yX6_unpin : MethodName := ⟨RX6, "unpin", "(I)I"⟩
abbrev cX6_pinHottest : ByteArray := prog_1_method_23_code
def yX6_pinHottest : MethodName := ⟨RX6, "pinHottest", "()I"⟩
abbrev cX6_trackedKeys : ByteArray := prog_1_method_24_code
def yX6_trackedKeys : MethodName := ⟨RX6, "trackedKeys", "()I"⟩
abbrev cX6_hotKey : ByteArray := prog_1_method_25_code
def yX6_hotKey : MethodName := ⟨RX6, "hotKey", "(I)I"⟩
abbrev cX6_hotCount : ByteArray := prog_1_method_26_code
def yX6_hotCount : MethodName := ⟨RX6, "hotCount", "(I)J"⟩
abbrev cX6_hotError : ByteArray := prog_1_method_27_code
def yX6_hotError : MethodName := ⟨RX6, "hotError", "(I)J"⟩
abbrev cX6_undo : ByteArray := prog_1_method_28_code
def yX6_undo : MethodName := ⟨RX6, "undo", "()I"⟩
abbrev cX6_isSlotCount : ByteArray := prog_1_method_29_code
def yX6_isSlotCount : MethodName := ⟨RX6, "isSlotCount", "(I)Z"⟩
abbrev cX6_checkName : ByteArray := prog_1_method_30_code
def yX6_checkName : MethodName := ⟨RX6, "checkName", "(I)V"⟩
abbrev cX6_checkWeight : ByteArray := prog_1_method_31_code
def yX6_checkWeight : MethodName := ⟨RX6, "checkWeight", "(I)V"⟩
abbrev cX6_checkKey : ByteArray := prog_1_method_32_code
def yX6_checkKey : MethodName := ⟨RX6, "checkKey", "(I)V"⟩
abbrev cX6_checkServer : ByteArray := prog_1_method_33_code
def yX6_checkServer : MethodName := ⟨RX6, "checkServer", "(I)V"⟩
abbrev cX6_checkEntry : ByteArray := prog_1_method_34_code
def yX6_checkEntry : MethodName := ⟨RX6, "checkEntry", "(I)V"⟩
abbrev cX6_checkRoomForPin : ByteArray := prog_1_method_35_code
def yX6_checkRoomForPin : MethodName := ⟨RX6, "checkRoomForPin", "(I)V"⟩
abbrev cX6_shareOf : ByteArray := prog_1_method_36_code
def yX6_shareOf : MethodName := ⟨RX6, "shareOf", "(I)D"⟩
abbrev cX6_lookUp : ByteArray := prog_1_method_37_code
def yX6_lookUp : MethodName := ⟨RX6, "lookUp", "(I)I"⟩
abbrev cX6_remainder : ByteArray := prog_1_method_38_code
def yX6_remainder : MethodName := ⟨RX6, "remainder", "(JI)I"⟩
def RX7 : String := "PreferenceTableModel"
def TX7 : u_T := fun k => match k with
  | 0 => ("PreferenceTableModel", "fault", "I", false)
  | 1 => ("PreferenceTableModel", "slots", "I", false)
  | 2 => ("PreferenceTableModel", "state", "[I", true)
  | 3 => ("PreferenceTableModel", "name", "[I", true)
  | 4 => ("PreferenceTableModel", "weight", "[I", true)
  | 5 => ("PreferenceTableModel", "load", "[J", true)
  | 6 => ("PreferenceTableModel", "table", "[I", true)
  | 7 => ("PreferenceTableModel", "was", "[I", true)
  | 8 => ("PreferenceTableModel", "changed", "I", false)
  | 9 => ("PreferenceTableModel", "forced", "I", false)
  | 10 => ("PreferenceTableModel", "pins", "I", false)
  | 11 => ("PreferenceTableModel", "pinKey", "[I", true)
  | 12 => ("PreferenceTableModel", "pinTo", "[I", true)
  | 13 => ("PreferenceTableModel", "tracked", "I", false)
  | 14 => ("PreferenceTableModel", "hot", "[I", true)
  | 15 => ("PreferenceTableModel", "counts", "[J", true)
  | 16 => ("PreferenceTableModel", "errors", "[J", true)
  | 17 => ("PreferenceTableModel", "kept", "I", false)
  | 18 => ("PreferenceTableModel", "keptState", "[I", true)
  | 19 => ("PreferenceTableModel", "keptName", "[I", true)
  | 20 => ("PreferenceTableModel", "keptWeight", "[I", true)
  | 21 => ("PreferenceTableModel", "keptLoad", "[J", true)
  | 22 => ("PreferenceTableModel", "keptPins", "[I", true)
  | 23 => ("PreferenceTableModel", "keptKey", "[I", true)
  | _ => ("PreferenceTableModel", "keptTo", "[I", true)
def tyX7 : Nat → FieldType := fun k => match k with
  | 0 => .int
  | 1 => .int
  | 2 => .array .int
  | 3 => .array .int
  | 4 => .array .int
  | 5 => .array .long
  | 6 => .array .int
  | 7 => .array .int
  | 8 => .int
  | 9 => .int
  | 10 => .int
  | 11 => .array .int
  | 12 => .array .int
  | 13 => .int
  | 14 => .array .int
  | 15 => .array .long
  | 16 => .array .long
  | 17 => .int
  | 18 => .array .int
  | 19 => .array .int
  | 20 => .array .int
  | 21 => .array .long
  | 22 => .array .int
  | 23 => .array .int
  | _ => .array .int
abbrev wsX70 : List Cond := u_ws RX7 TX7 25
theorem nmX7 : ∀ a, a < 25 → ∀ b, b < 25 → a ≠ b → (TX7 a).2.1 ≠ (TX7 b).2.1 := by decide +kernel
theorem tyX7_ok : ∀ k, k < 25 → parseFieldDescriptor (TX7 k).2.2.1 = some (tyX7 k) := by decide +kernel
abbrev cX7_init : ByteArray := prog_9_method_1_code
def yX7_init : MethodName := ⟨RX7, "<init>", "()V"⟩
abbrev cX7_thrown : ByteArray := prog_9_method_2_code
def yX7_thrown : MethodName := ⟨RX7, "thrown", "()I"⟩
abbrev cX7_in : ByteArray := prog_9_method_3_code
def yX7_in : MethodName := ⟨RX7, "in", "(JJJ)Z"⟩
abbrev cX7_isRefused : ByteArray := prog_9_method_4_code
def yX7_isRefused : MethodName := ⟨RX7, "isRefused", "(ZZ)Z"⟩
abbrev cX7_begins : ByteArray := prog_9_method_5_code
def yX7_begins : MethodName := ⟨RX7, "begins", "(I)V"⟩
abbrev cX7_noServer : ByteArray := prog_9_method_6_code
def yX7_noServer : MethodName := ⟨RX7, "noServer", "(I)Z"⟩
abbrev cX7_noKey : ByteArray := prog_9_method_7_code
def yX7_noKey : MethodName := ⟨RX7, "noKey", "(I)Z"⟩
abbrev cX7_preferred : ByteArray := prog_9_method_8_code
def yX7_preferred : MethodName := ⟨RX7, "preferred", "(II)I"⟩
abbrev cX7_takes : ByteArray := prog_9_method_9_code
def yX7_takes : MethodName := ⟨RX7, "takes", "(I)V"⟩
abbrev cX7_builds : ByteArray := prog_9_method_10_code
def yX7_builds : MethodName := ⟨RX7, "builds", "()V"⟩
abbrev cX7_remembers : ByteArray := prog_9_method_11_code
def yX7_remembers : MethodName := ⟨RX7, "remembers", "()V"⟩
abbrev cX7_differing : ByteArray := prog_9_method_12_code
def yX7_differing : MethodName := ⟨RX7, "differing", "()I"⟩
abbrev cX7_comesAnew : ByteArray := prog_9_method_13_code
def yX7_comesAnew : MethodName := ⟨RX7, "comesAnew", "()V"⟩
abbrev cX7_isPrime : ByteArray := prog_9_method_14_code
def yX7_isPrime : MethodName := ⟨RX7, "isPrime", "(I)Z"⟩
abbrev cX7_reset : ByteArray := prog_9_method_15_code
def yX7_reset : MethodName := ⟨RX7, "reset", "(I)I"⟩
abbrev cX7_serverAt : ByteArray := prog_9_method_16_code
def yX7_serverAt : MethodName := ⟨RX7, "serverAt", "(I)I"⟩
abbrev cX7_disruption : ByteArray := prog_9_method_17_code
def yX7_disruption : MethodName := ⟨RX7, "disruption", "()I"⟩
abbrev cX7_forcedDisruption : ByteArray := prog_9_method_18_code
def yX7_forcedDisruption : MethodName := ⟨RX7, "forcedDisruption", "()I"⟩
abbrev cX7_slotsNow : ByteArray := prog_9_method_19_code
def yX7_slotsNow : MethodName := ⟨RX7, "slotsNow", "(I)I"⟩
abbrev cX7_ideal : ByteArray := prog_9_method_20_code
def yX7_ideal : MethodName := ⟨RX7, "ideal", "(I)D"⟩
abbrev cX7_imbalance : ByteArray := prog_9_method_21_code
def yX7_imbalance : MethodName := ⟨RX7, "imbalance", "()D"⟩
abbrev cX7_keeps : ByteArray := prog_9_method_22_code
def yX7_keeps : MethodName := ⟨RX7, "keeps", "()V"⟩
abbrev cX7_undo : ByteArray := prog_9_method_23_code
def yX7_undo : MethodName := ⟨RX7, "undo", "()I"⟩
abbrev cX7_named : ByteArray := prog_9_method_24_code
def yX7_named : MethodName := ⟨RX7, "named", "(I)I"⟩
abbrev cX7_noName : ByteArray := prog_9_method_25_code
def yX7_noName : MethodName := ⟨RX7, "noName", "(I)Z"⟩
abbrev cX7_noWeight : ByteArray := prog_9_method_26_code
def yX7_noWeight : MethodName := ⟨RX7, "noWeight", "(I)Z"⟩
abbrev cX7_count : ByteArray := prog_9_method_27_code
def yX7_count : MethodName := ⟨RX7, "count", "()I"⟩
abbrev cX7_addServer : ByteArray := prog_9_method_28_code
def yX7_addServer : MethodName := ⟨RX7, "addServer", "(II)I"⟩
abbrev cX7_removeServer : ByteArray := prog_9_method_29_code
def yX7_removeServer : MethodName := ⟨RX7, "removeServer", "(I)J"⟩
abbrev cX7_setWeight : ByteArray := prog_9_method_30_code
def yX7_setWeight : MethodName := ⟨RX7, "setWeight", "(II)I"⟩
abbrev cX7_setUp : ByteArray := prog_9_method_31_code
def yX7_setUp : MethodName := ⟨RX7, "setUp", "(IZ)Z"⟩
abbrev cX7_serverCount : ByteArray := prog_9_method_32_code
def yX7_serverCount : MethodName := ⟨RX7, "serverCount", "()I"⟩
abbrev cX7_serverNamed : ByteArray := prog_9_method_33_code
def yX7_serverNamed : MethodName := ⟨RX7, "serverNamed", "(I)I"⟩
abbrev cX7_preference : ByteArray := prog_9_method_34_code
def yX7_preference : MethodName := ⟨RX7, "preference", "(II)I"⟩
abbrev cX7_slotsOf : ByteArray := prog_9_method_35_code
def yX7_slotsOf : MethodName := ⟨RX7, "slotsOf", "(I)I"⟩
abbrev cX7_idealShare : ByteArray := prog_9_method_36_code
def yX7_idealShare : MethodName := ⟨RX7, "idealShare", "(I)D"⟩
abbrev cX7_removalDisruption : ByteArray := prog_9_method_37_code
def yX7_removalDisruption : MethodName := ⟨RX7, "removalDisruption", "(I)I"⟩
abbrev cX7_pinOf : ByteArray := prog_9_method_38_code
def yX7_pinOf : MethodName := ⟨RX7, "pinOf", "(I)I"⟩
abbrev cX7_at : ByteArray := prog_9_method_39_code
def yX7_at : MethodName := ⟨RX7, "at", "(I)I"⟩
abbrev cX7_serverOf : ByteArray := prog_9_method_40_code
def yX7_serverOf : MethodName := ⟨RX7, "serverOf", "(I)I"⟩
abbrev cX7_tracks : ByteArray := prog_9_method_41_code
def yX7_tracks : MethodName := ⟨RX7, "tracks", "(II)V"⟩
abbrev cX7_request : ByteArray := prog_9_method_42_code
def yX7_request : MethodName := ⟨RX7, "request", "(II)I"⟩
abbrev cX7_loadOf : ByteArray := prog_9_method_43_code
def yX7_loadOf : MethodName := ⟨RX7, "loadOf", "(I)J"⟩
abbrev cX7_ranked : ByteArray := prog_9_method_44_code
def yX7_ranked : MethodName := ⟨RX7, "ranked", "(I)I"⟩
abbrev cX7_ups : ByteArray := prog_9_method_45_code
def yX7_ups : MethodName := ⟨RX7, "ups", "()I"⟩
abbrev cX7_rankedServer : ByteArray := prog_9_method_46_code
def yX7_rankedServer : MethodName := ⟨RX7, "rankedServer", "(I)I"⟩
abbrev cX7_pinsTo : ByteArray := prog_9_method_47_code
def yX7_pinsTo : MethodName := ⟨RX7, "pinsTo", "(II)I"⟩
abbrev cX7_noRoom : ByteArray := prog_9_method_48_code
def yX7_noRoom : MethodName := ⟨RX7, "noRoom", "(I)Z"⟩
abbrev cX7_pin : ByteArray := prog_9_method_49_code
def yX7_pin : MethodName := ⟨RX7, "pin", "(II)I"⟩
abbrev cX7_unpin : ByteArray := prog_9_method_50_code
def yX7_unpin : MethodName := ⟨RX7, "unpin", "(I)I"⟩
abbrev cX7_listed : ByteArray := prog_9_method_51_code
def yX7_listed : MethodName := ⟨RX7, "listed", "(I)I"⟩
abbrev cX7_pinHottest : ByteArray := prog_9_method_52_code
def yX7_pinHottest : MethodName := ⟨RX7, "pinHottest", "()I"⟩
abbrev cX7_trackedKeys : ByteArray := prog_9_method_53_code
def yX7_trackedKeys : MethodName := ⟨RX7, "trackedKeys", "()I"⟩
abbrev cX7_noEntry : ByteArray := prog_9_method_54_code
def yX7_noEntry : MethodName := ⟨RX7, "noEntry", "(I)Z"⟩
abbrev cX7_hotKey : ByteArray := prog_9_method_55_code
def yX7_hotKey : MethodName := ⟨RX7, "hotKey", "(I)I"⟩
abbrev cX7_hotCount : ByteArray := prog_9_method_56_code
def yX7_hotCount : MethodName := ⟨RX7, "hotCount", "(I)J"⟩
abbrev cX7_hotError : ByteArray := prog_9_method_57_code
def yX7_hotError : MethodName := ⟨RX7, "hotError", "(I)J"⟩
def RJx145de : String := "java/io/Serializable"
def TJx145de : u_T := fun k => match k with
  | _ => ("", "", "", false)
def tyJx145de : Nat → FieldType := fun k => match k with
  | _ => .int
abbrev wsJx145de0 : List Cond := u_ws RJx145de TJx145de 0
theorem nmJx145de : ∀ a, a < 0 → ∀ b, b < 0 → a ≠ b → (TJx145de a).2.1 ≠ (TJx145de b).2.1 := by decide +kernel
theorem tyJx145de_ok : ∀ k, k < 0 → parseFieldDescriptor (TJx145de k).2.2.1 = some (tyJx145de k) := by decide +kernel
def RJ9 : String := "java/lang/Math"
def TJ9 : u_T := fun k => match k with
  | _ => ("", "", "", false)
def tyJ9 : Nat → FieldType := fun k => match k with
  | _ => .int
abbrev wsJ90 : List Cond := u_ws RJ9 TJ9 0
theorem nmJ9 : ∀ a, a < 0 → ∀ b, b < 0 → a ≠ b → (TJ9 a).2.1 ≠ (TJ9 b).2.1 := by decide +kernel
theorem tyJ9_ok : ∀ k, k < 0 → parseFieldDescriptor (TJ9 k).2.2.1 = some (tyJ9 k) := by decide +kernel
abbrev cJ9_max_7cf53 : ByteArray := prog_14_method_65_code
def yJ9_max_7cf53 : MethodName := ⟨RJ9, "max", "(II)I"⟩
abbrev cJ9_min_7cf53 : ByteArray := prog_14_method_69_code
def yJ9_min_7cf53 : MethodName := ⟨RJ9, "min", "(II)I"⟩
def RJ0 : String := "java/lang/String"
def TJ0 : u_T := fun k => match k with
  | _ => ("", "", "", false)
def tyJ0 : Nat → FieldType := fun k => match k with
  | _ => .int
abbrev wsJ00 : List Cond := u_ws RJ0 TJ0 0
theorem nmJ0 : ∀ a, a < 0 → ∀ b, b < 0 → a ≠ b → (TJ0 a).2.1 ≠ (TJ0 b).2.1 := by decide +kernel
theorem tyJ0_ok : ∀ k, k < 0 → parseFieldDescriptor (TJ0 k).2.2.1 = some (tyJ0 k) := by decide +kernel
def RJ7 : String := "java/util/Arrays"
def TJ7 : u_T := fun k => match k with
  | _ => ("", "", "", false)
def tyJ7 : Nat → FieldType := fun k => match k with
  | _ => .int
abbrev wsJ70 : List Cond := u_ws RJ7 TJ7 0
theorem nmJ7 : ∀ a, a < 0 → ∀ b, b < 0 → a ≠ b → (TJ7 a).2.1 ≠ (TJ7 b).2.1 := by decide +kernel
theorem tyJ7_ok : ∀ k, k < 0 → parseFieldDescriptor (TJ7 k).2.2.1 = some (tyJ7 k) := by decide +kernel
abbrev cJ7_fill_53178 : ByteArray := prog_18_method_103_code
def yJ7_fill_53178 : MethodName := ⟨RJ7, "fill", "([II)V"⟩
def RL : String := "PreferenceTableLaw"
abbrev cL_reset : ByteArray := method_3_code
def yL_reset : MethodName := ⟨RL, "reset", "(LPreferenceTable;I[J)I"⟩
abbrev cL_serverAt : ByteArray := method_4_code
def yL_serverAt : MethodName := ⟨RL, "serverAt", "(LPreferenceTable;I[J)I"⟩
abbrev cL_addServer : ByteArray := method_5_code
def yL_addServer : MethodName := ⟨RL, "addServer", "(LPreferenceTable;II[J)I"⟩
abbrev cL_removeServer : ByteArray := method_6_code
def yL_removeServer : MethodName := ⟨RL, "removeServer", "(LPreferenceTable;I[J)I"⟩
abbrev cL_setWeight : ByteArray := method_7_code
def yL_setWeight : MethodName := ⟨RL, "setWeight", "(LPreferenceTable;II[J)I"⟩
abbrev cL_setUp : ByteArray := method_8_code
def yL_setUp : MethodName := ⟨RL, "setUp", "(LPreferenceTable;IZ[J)I"⟩
abbrev cL_serverNamed : ByteArray := method_9_code
def yL_serverNamed : MethodName := ⟨RL, "serverNamed", "(LPreferenceTable;I[J)I"⟩
abbrev cL_preference : ByteArray := method_10_code
def yL_preference : MethodName := ⟨RL, "preference", "(LPreferenceTable;II[J)I"⟩
abbrev cL_slotsOf : ByteArray := method_11_code
def yL_slotsOf : MethodName := ⟨RL, "slotsOf", "(LPreferenceTable;I[J)I"⟩
abbrev cL_idealShare : ByteArray := method_12_code
def yL_idealShare : MethodName := ⟨RL, "idealShare", "(LPreferenceTable;I[D)I"⟩
abbrev cL_removalDisruption : ByteArray := method_13_code
def yL_removalDisruption : MethodName := ⟨RL, "removalDisruption", "(LPreferenceTable;I[J)I"⟩
abbrev cL_serverOf : ByteArray := method_14_code
def yL_serverOf : MethodName := ⟨RL, "serverOf", "(LPreferenceTable;I[J)I"⟩
abbrev cL_request : ByteArray := method_15_code
def yL_request : MethodName := ⟨RL, "request", "(LPreferenceTable;II[J)I"⟩
abbrev cL_loadOf : ByteArray := method_16_code
def yL_loadOf : MethodName := ⟨RL, "loadOf", "(LPreferenceTable;I[J)I"⟩
abbrev cL_rankedServer : ByteArray := method_17_code
def yL_rankedServer : MethodName := ⟨RL, "rankedServer", "(LPreferenceTable;I[J)I"⟩
abbrev cL_pin : ByteArray := method_18_code
def yL_pin : MethodName := ⟨RL, "pin", "(LPreferenceTable;II[J)I"⟩
abbrev cL_unpin : ByteArray := method_19_code
def yL_unpin : MethodName := ⟨RL, "unpin", "(LPreferenceTable;I[J)I"⟩
abbrev cL_pinHottest : ByteArray := method_20_code
def yL_pinHottest : MethodName := ⟨RL, "pinHottest", "(LPreferenceTable;[J)I"⟩
abbrev cL_hotKey : ByteArray := method_21_code
def yL_hotKey : MethodName := ⟨RL, "hotKey", "(LPreferenceTable;I[J)I"⟩
abbrev cL_hotCount : ByteArray := method_22_code
def yL_hotCount : MethodName := ⟨RL, "hotCount", "(LPreferenceTable;I[J)I"⟩
abbrev cL_hotError : ByteArray := method_23_code
def yL_hotError : MethodName := ⟨RL, "hotError", "(LPreferenceTable;I[J)I"⟩
abbrev cL_undo : ByteArray := method_24_code
def yL_undo : MethodName := ⟨RL, "undo", "(LPreferenceTable;[J)I"⟩
abbrev cL_law : ByteArray := code
def yL_law : MethodName := ⟨RL, "law", "([I)Z"⟩
abbrev vwCl : List vw_C := [(RX0, TX0, 4), (RX1, TX1, 2), (RX2, TX2, 3), (RX3, TX3, 6), (RX4, TX4, 2), (RX5, TX5, 4), (RX6, TX6, 5), (RX7, TX7, 25)]
end
section
/-! ===== pictures: a method's world as a list of cells, a reference is a place in the list ===== -/
/-- X: classes and slots; the class of an array by its kind (0 int, 1 long, 2 double, 3 boolean, 4 Snapshot); arrays outside: address, length, contents -/
abbrev aX : Type := va_G × (Nat → ClassId) × (Nat → Nat) × (Nat → Nat) × (Nat → Nat → Int32)
abbrev aCell : Type := (Nat × List Value) ⊕ (Nat × ((Nat → Int32) ⊕ (Nat → Int64) ⊕ (Nat → UInt64) ⊕ (Nat → Int32))) ⊕ List (Option Nat)
abbrev aOb (ci : Nat) (fs : List Value) : aCell := .inl (ci, fs)
abbrev aIa (n : Nat) (f : Nat → Int32) : aCell := .inr (.inl (n, .inl f))
abbrev aLa (n : Nat) (f : Nat → Int64) : aCell := .inr (.inl (n, .inr (.inl f)))
abbrev aDa (n : Nat) (f : Nat → UInt64) : aCell := .inr (.inl (n, .inr (.inr (.inl f))))
abbrev aBa (n : Nat) (f : Nat → Int32) : aCell := .inr (.inl (n, .inr (.inr (.inr f))))
abbrev aRa (l : List (Option Nat)) : aCell := .inr (.inr l)
/-- references renamed -/
def aRv (f : Nat → Nat) (v : Value) : Value := match v with
  | .ref i => .ref (f i)
  | v => v
def aRc (f : Nat → Nat) (e : aCell) : aCell := match e with
  | .inl o => .inl (o.1, o.2.map (aRv f))
  | .inr (.inl a) => .inr (.inl a)
  | .inr (.inr l) => .inr (.inr (l.map (fun r => r.map f)))
/-- an array outside is written retAddr k -/
def aCv (X : aX) (v : Value) : Value := match v with
  | .retAddr k => .ref (X.2.2.1 k)
  | v => v
def aCc (X : aX) (e : aCell) : va_E := match e with
  | .inl o => .inr (o.1, o.2.map (aCv X))
  | .inr (.inl (n, .inl f)) => .inl (X.2.1 0, n, .inl f)
  | .inr (.inl (n, .inr (.inl f))) => .inl (X.2.1 1, n, .inr (.inl f))
  | .inr (.inl (n, .inr (.inr (.inl f)))) => .inl (X.2.1 2, n, .inr (.inr (.inr (.inl f))))
  | .inr (.inl (n, .inr (.inr (.inr f)))) => .inl (X.2.1 3, n, .inl f)
  | .inr (.inr l) => .inl (X.2.1 4, l.length, .inr (.inr (.inr (.inr (fun k => l.getD k none)))))
/-- map with places -/
def aMx {α β : Type} (g : Nat → α → β) : Nat → List α → List β
  | _, [] => []
  | i, e :: l => g i e :: aMx g (i + 1) l
theorem aMx_get {α β : Type} (g : Nat → α → β) : ∀ (l : List α) (i j : Nat), (aMx g i l)[j]? = (l[j]?).map (g (i + j))
  | [], i, j => by simp [aMx]
  | e :: l, i, 0 => by simp [aMx]
  | e :: l, i, j + 1 => by
    simp only [aMx, List.getElem?_cons_succ]
    rw [aMx_get g l (i + 1) j]
    rw [show i + 1 + j = i + (j + 1) by omega]
theorem aMx_len {α β : Type} (g : Nat → α → β) : ∀ (l : List α) (i : Nat), (aMx g i l).length = l.length
  | [], i => rfl
  | e :: l, i => by simp [aMx, aMx_len g l (i + 1)]
def aW (X : aX) (ad : Nat → Nat) (h : List aCell) : va_W := aMx (fun i e => (ad i, aCc X (aRc ad e))) 0 h
theorem aW_get (X : aX) (ad : Nat → Nat) (h : List aCell) (j : Nat) : (aW X ad h)[j]? = (h[j]?).map (fun e => (ad j, aCc X (aRc ad e))) := by
  rw [aW, aMx_get, Nat.zero_add]
theorem aW_at {X : aX} {ad : Nat → Nat} {h : List aCell} {j : Nat} {e : aCell} (hj : h[j]? = some e) : (aW X ad h)[j]? = some (ad j, aCc X (aRc ad e)) := by
  rw [aW_get, hj]; rfl
theorem aW_of {X : aX} {ad : Nat → Nat} {h : List aCell} {j : Nat} {q : Nat × va_E} (hj : (aW X ad h)[j]? = some q) : ∃ e, h[j]? = some e ∧ q = (ad j, aCc X (aRc ad e)) := by
  rw [aW_get] at hj
  cases he : h[j]? with
  | none => rw [he] at hj; cases hj
  | some e => rw [he] at hj; exact ⟨e, rfl, (Option.some.inj hj).symm⟩
theorem aW_set {X : aX} {ad : Nat → Nat} {h : List aCell} {j : Nat} {e : aCell} : aW X ad (h.set j e) = (aW X ad h).set j (ad j, aCc X (aRc ad e)) := by
  apply List.ext_getElem?
  intro i
  rw [aW_get, List.getElem?_set, List.getElem?_set, aW_get, aW, aMx_len]
  by_cases hij : j = i
  · subst hij
    by_cases hl : j < h.length
    · simp [hl]
    · simp [hl]
  · simp [hij]
theorem aRv_comp (f g : Nat → Nat) (v : Value) : aRv f (aRv g v) = aRv (fun i => f (g i)) v := by cases v <;> rfl
theorem aRc_comp (f g : Nat → Nat) (e : aCell) : aRc f (aRc g e) = aRc (fun i => f (g i)) e := by
  rcases e with ⟨ci, fs⟩ | a | l
  · simp only [aRc, List.map_map]
    congr 2
    apply List.map_congr_left
    intro v _
    exact aRv_comp f g v
  · rfl
  · simp only [aRc, List.map_map]
    congr 2
    apply List.map_congr_left
    intro r _
    cases r <;> rfl
/-- all references satisfy p -/
def aVo (p : Nat → Bool) (v : Value) : Bool := match v with
  | .ref i => p i
  | _ => true
def aCo (p : Nat → Bool) (e : aCell) : Bool := match e with
  | .inl o => o.2.all (aVo p)
  | .inr (.inl _) => true
  | .inr (.inr l) => l.all (fun r => match r with | some i => p i | none => true)
theorem aRv_congr {p : Nat → Bool} {f g : Nat → Nat} (hp : ∀ i, p i = true → f i = g i) {v : Value} (h : aVo p v = true) : aRv f v = aRv g v := by
  cases v <;> simp_all [aRv, aVo]
theorem aRc_congr {p : Nat → Bool} {f g : Nat → Nat} (hp : ∀ i, p i = true → f i = g i) {e : aCell} (h : aCo p e = true) : aRc f e = aRc g e := by
  rcases e with ⟨ci, fs⟩ | a | l
  · simp only [aRc]
    congr 2
    apply List.map_congr_left
    intro v hv
    exact aRv_congr hp (List.all_eq_true.mp h v hv)
  · rfl
  · simp only [aRc]
    congr 2
    apply List.map_congr_left
    intro r hr
    have := List.all_eq_true.mp h r hr
    cases r with
    | none => rfl
    | some i => exact congrArg some (hp i this)
/-- a value, as the machine has it -/
abbrev aV (X : aX) (ad : Nat → Nat) (v : Value) : Value := aCv X (aRv ad v)
theorem aV_cat (X : aX) (ad : Nat → Nat) (v : Value) : (aV X ad v).category = v.category := by cases v <;> rfl
theorem aV_congr {p : Nat → Bool} {f g : Nat → Nat} {X : aX} (hp : ∀ i, p i = true → f i = g i) {v : Value} (h : aVo p v = true) : aV X f v = aV X g v := by
  unfold aV; rw [aRv_congr hp h]
theorem aVs_congr {p : Nat → Bool} {f g : Nat → Nat} {X : aX} (hp : ∀ i, p i = true → f i = g i) {l : List Value} (h : l.all (aVo p) = true) : l.map (aV X f) = l.map (aV X g) :=
  List.map_congr_left fun v hv => aV_congr hp (List.all_eq_true.mp h v hv)
theorem aVs_cat (X : aX) (ad : Nat → Nat) (l : List Value) : ((l.map (aV X ad)).map fun v => v.category).sum = (l.map fun v => v.category).sum := by
  rw [List.map_map]
  congr 1
  exact List.map_congr_left fun v _ => aV_cat X ad v
/-! ===== locals by their places; null: nothing is known ===== -/
def aLv (X : aX) (ad : Nat → Nat) (ls : Array Slot) (nL : Nat) (L : List Value) : Prop := ls.size = nL ∧ lv_wf ls ∧ ∀ (i : Nat) (v : Value), L[i]? = some v → v ≠ .null → ls[i]? = some (.val (aV X ad v))
def aEl (X : aX) (ad : Nat → Nat) (L : List Value) : List (Nat × Value) := (List.range L.length).filterMap (fun j => (L[j]?).bind (fun v => if v = .null then none else some (j, aV X ad v)))
theorem aEl_mem {X : aX} {ad : Nat → Nat} {L : List Value} {q : Nat × Value} : q ∈ aEl X ad L ↔ ∃ v, L[q.1]? = some v ∧ v ≠ .null ∧ q.2 = aV X ad v := by
  obtain ⟨i, w⟩ := q
  constructor
  · intro h
    obtain ⟨j, -, hj⟩ := List.mem_filterMap.mp h
    cases hv : L[j]? with
    | none => rw [hv] at hj; cases hj
    | some v =>
      rw [hv] at hj
      by_cases hn : v = .null
      · simp [hn] at hj
      · simp [hn] at hj
        obtain ⟨rfl, rfl⟩ := hj
        exact ⟨v, hv, hn, rfl⟩
  · rintro ⟨v, hv, hn, hw⟩
    refine List.mem_filterMap.mpr ⟨i, List.mem_range.mpr (List.getElem?_eq_some_iff.mp hv).1, ?_⟩
    dsimp only at hv hw
    rw [hv, hw]
    simp [hn]
theorem aLv.has {X : aX} {ad : Nat → Nat} {ls : Array Slot} {nL : Nat} {L : List Value} (h : aLv X ad ls nL L) : lv_has ls nL (aEl X ad L) := by
  refine ⟨h.1, h.2.1, fun q hq => ?_⟩
  obtain ⟨v, h1, h2, h3⟩ := aEl_mem.mp hq
  rw [h3]
  exact h.2.2 q.1 v h1 h2
theorem aLv.of {X : aX} {ad : Nat → Nat} {ls : Array Slot} {nL : Nat} {L : List Value} {l : List (Nat × Value)} (h : lv_has ls nL l) (hm : ∀ (i : Nat) (v : Value), L[i]? = some v → v ≠ .null → (i, aV X ad v) ∈ l) : aLv X ad ls nL L :=
  ⟨h.1, h.2.1, fun i v h1 h2 => h.2.2 _ (hm i v h1 h2)⟩
/-- below place i no long or double reaches into i -/
def aLow (L : List Value) (i : Nat) : Bool := match i with
  | 0 => true
  | j + 1 => match L[j]? with
    | some w => w.category == 1
    | none => true
theorem aLv.put1 {X : aX} {ad : Nat → Nat} {ls : Array Slot} {nL i : Nat} {L : List Value} {v : Value} (hw : aLow L i = true) (h : lv_has ls nL ((i, aV X ad v) :: (aEl X ad L).filter (fun q => !(q.1 == i) && !(q.1 + 1 == i && q.2.category == 2)))) : aLv X ad ls nL (L.set i v) := by
  refine aLv.of h fun j w hj hn => ?_
  rw [List.getElem?_set] at hj
  by_cases hij : i = j
  · subst hij
    rw [if_pos rfl] at hj
    by_cases hl : i < L.length
    · rw [if_pos hl] at hj
      cases hj
      exact List.mem_cons_self
    · rw [if_neg hl] at hj; cases hj
  · rw [if_neg hij] at hj
    refine List.mem_cons_of_mem _ (List.mem_filter.mpr ⟨aEl_mem.mpr ⟨w, hj, hn, rfl⟩, ?_⟩)
    simp only [Bool.and_eq_true, Bool.not_eq_true', beq_eq_false_iff_ne, ne_eq, Bool.and_eq_false_iff]
    refine ⟨fun q => hij q.symm, ?_⟩
    by_cases hji : j + 1 = i
    · right
      subst hji
      simp only [aLow, hj] at hw
      rw [aV_cat]
      intro q
      rw [q] at hw
      cases hw
    · exact Or.inl hji
theorem aLv.put2 {X : aX} {ad : Nat → Nat} {ls : Array Slot} {nL i : Nat} {L : List Value} {v : Value} (hw : aLow L i = true) (h : lv_has ls nL ((i, aV X ad v) :: (aEl X ad L).filter (fun q => !(q.1 == i) && (!(q.1 == i + 1) && !(q.1 + 1 == i && q.2.category == 2))))) : aLv X ad ls nL ((L.set i v).set (i + 1) .null) := by
  refine aLv.of h fun j w hj hn => ?_
  rw [List.getElem?_set] at hj
  by_cases hj1 : i + 1 = j
  · subst hj1
    rw [if_pos rfl] at hj
    by_cases hl : i + 1 < (L.set i v).length
    · rw [if_pos hl] at hj
      exact absurd (Option.some.inj hj).symm hn
    · rw [if_neg hl] at hj; cases hj
  · rw [if_neg hj1, List.getElem?_set] at hj
    by_cases hij : i = j
    · subst hij
      rw [if_pos rfl] at hj
      by_cases hl : i < L.length
      · rw [if_pos hl] at hj
        cases hj
        exact List.mem_cons_self
      · rw [if_neg hl] at hj; cases hj
    · rw [if_neg hij] at hj
      refine List.mem_cons_of_mem _ (List.mem_filter.mpr ⟨aEl_mem.mpr ⟨w, hj, hn, rfl⟩, ?_⟩)
      simp only [Bool.and_eq_true, Bool.not_eq_true', beq_eq_false_iff_ne, ne_eq, Bool.and_eq_false_iff]
      refine ⟨fun q => hij q.symm, fun q => hj1 q.symm, ?_⟩
      by_cases hji : j + 1 = i
      · right
        subst hji
        simp only [aLow, hj] at hw
        rw [aV_cat]
        intro q
        rw [q] at hw
        cases hw
      · exact Or.inl hji
/-- the arguments at the entry, by their places -/
def aArg : List Value → List Value
  | [] => []
  | v :: l => if v.category = 2 then v :: .null :: aArg l else v :: aArg l
theorem aArg_mem (X : aX) (ad : Nat → Nat) : ∀ (vs : List Value) (k i : Nat) (v : Value), (aArg vs)[i]? = some v → v ≠ .null → (k + i, aV X ad v) ∈ lv_args k (vs.map (aV X ad))
  | [], k, i, v, h, _ => by simp [aArg] at h
  | u :: vs, k, i, v, h, hn => by
    simp only [List.map_cons, lv_args, aV_cat]
    by_cases hc : u.category = 2
    · simp only [aArg, if_pos hc] at h ⊢
      match i, h with
      | 0, h =>
        cases h
        exact List.mem_cons_self
      | 1, h => exact absurd (Option.some.inj h).symm hn
      | i + 2, h =>
        have := aArg_mem X ad vs (k + 2) i v h hn
        rw [show k + 2 + i = k + (i + 2) by omega] at this
        exact List.mem_cons_of_mem _ this
    · simp only [aArg, if_neg hc] at h ⊢
      match i, h with
      | 0, h =>
        cases h
        exact List.mem_cons_self
      | i + 1, h =>
        have := aArg_mem X ad vs (k + 1) i v h hn
        rw [show k + 1 + i = k + (i + 1) by omega] at this
        exact List.mem_cons_of_mem _ this
theorem aArg_len (X : aX) (ad : Nat → Nat) : ∀ (vs : List Value), (lg_sl (vs.map (aV X ad))).length = (aArg vs).length
  | [] => rfl
  | u :: vs => by
    have ih := aArg_len X ad vs
    simp only [lg_sl, List.map_cons, List.flatMap_cons, List.length_append, aV_cat] at ih ⊢
    by_cases hc : u.category = 2
    · simp only [aArg, if_pos hc, List.length_cons, List.length_nil]
      rw [ih]; omega
    · simp only [aArg, if_neg hc, List.length_cons, List.length_nil]
      rw [ih]; omega
def aPad (vs : List Value) (n : Nat) : List Value := aArg vs ++ List.replicate (n - (aArg vs).length) .null
theorem aLv.entry (X : aX) (ad : Nat → Nat) (vs : List Value) {n : Nat} (hn : (aArg vs).length ≤ n) : aLv X ad (lg_sl (vs.map (aV X ad)) ++ List.replicate (n - (lg_sl (vs.map (aV X ad))).length) Slot.unset).toArray n (aPad vs n) := by
  refine aLv.of (lv_entry _ (by rw [aArg_len]; exact hn)) fun i v hi hv => ?_
  unfold aPad at hi
  by_cases hl : i < (aArg vs).length
  · rw [List.getElem?_append_left hl] at hi
    have := aArg_mem X ad vs 0 i v hi hv
    rwa [Nat.zero_add] at this
  · rw [List.getElem?_append_right (by omega)] at hi
    obtain ⟨h1, h2⟩ := List.getElem?_eq_some_iff.mp hi
    rw [List.getElem_replicate] at h2
    exact absurd h2.symm hv
end
section
/-! ===== what holds throughout the run: words of the tables, statics, constants ===== -/
def aWk (w : Cond) : Bool := goodWord w || (match w with
  | .castable .. => true
  | .methodLinkNest .. => true
  | .declares _ => true
  | _ => false)
/-- a word that may be used anywhere -/
def aQ (w : Cond) : Prop := w ∈ lw_tbl ∧ aWk w = true
theorem aQ.at {w : Cond} (i : Nat) (h : lw_tbl[i]? = some w) (hg : aWk w = true) : aQ w := ⟨List.mem_of_getElem? h, hg⟩
def aTb (U : State) : Prop := ∀ w, aQ w → ∀ a : Array Value, w.before a U = true
theorem aTb.warm {s U : State} (hW : s.WarmedH U.vm) (h : aTb s) : aTb U := by
  intro w hw a
  have hb := h w hw #[]
  have hk := hw.2
  simp only [aWk, Bool.or_eq_true] at hk
  rcases hk with hk | hk
  · exact word_at hW (good_of_word hk) hb
  · cases w <;> first | (exact va_Nw.use rfl (va_Nw.warmC hW (va_Nw.of rfl hb))) | (exact va_Nw.use rfl (va_Nw.warmM hW (va_Nw.of rfl hb))) | (exact va_Nw.use rfl (va_Nw.warmD hW (va_Nw.of rfl hb))) | (cases hk)
def aTy (X : aX) : List (ClassId × FieldType) := [(X.2.1 0, .int), (X.2.1 1, .long), (X.2.1 2, .double), (X.2.1 3, .boolean), (X.2.1 4, .object RX4)]
def aZr : String := Bundle.tN
/-- the texts of the class's exceptions: class, entry, text -/
def aTx (U : State) : Prop := ∀ q ∈ lw_tbl, ∀ (own : String) (k : Nat) (tx : String), q = .stringRef own k tx → ∃ a, vk_R own k tx a U
theorem aTx.warm {s U : State} (hW : s.WarmedH U.vm) (h : aTx s) : aTx U := by
  intro q hq own k tx e
  obtain ⟨a, ha⟩ := h q hq own k tx e
  exact ⟨a, ha.warm hW⟩
def aNc (U : State) : Prop := va_Nc "java/lang/IllegalStateException" "java/lang/IllegalArgumentException" U
/-- statics and outside arrays, where they lie -/
def aSt (X : aX) (A : Nat → Prop) (U : State) (H : Heap) : Prop :=
  vx_Zq Bundle.tN "UNASSIGNED_STACK" Bundle.steD A U H ∧ vx_Zq Bundle.tN "SUPPRESSED_SENTINEL" Bundle.listD A U H ∧ va_Z "PreferenceTable" "SLOT_COUNTS" "[I" (.ref (X.2.2.1 0)) A U H ∧ ∀ k, k < 2 → va_T .int (X.2.2.1 k) (X.2.2.2.1 k) (fun j => .int (X.2.2.2.2 k j)) A U H
theorem aSt.moved {X : aX} {A : Nat → Prop} {u U : State} {H : Heap} (hvm : u.vm.Alike U.vm) (h : aSt X A u H) : aSt X A U H :=
  ⟨h.1.moved hvm, h.2.1.moved hvm, h.2.2.1.moved hvm, fun k hk => (h.2.2.2 k hk).moved hvm⟩
theorem aSt.kept {X : aX} {A : Nat → Prop} {U : State} {H H1 : Heap} (h : aSt X A U H) (hq : ∀ a : Nat, a < H.size → ¬ A a → H1[a]? = H[a]?) : aSt X A U H1 :=
  ⟨h.1.kept hq, h.2.1.kept hq, h.2.2.1.kept hq, fun k hk => (h.2.2.2 k hk).kept hq⟩
theorem aSt.narrow {X : aX} {A B : Nat → Prop} {U : State} {H : Heap} (h : aSt X A U H) (hAB : ∀ q, B q → A q) : aSt X B U H :=
  ⟨h.1.narrow hAB, h.2.1.narrow hAB, h.2.2.1.narrow hAB, fun k hk => (h.2.2.2 k hk).narrow hAB⟩
def aEn (X : aX) (A : Nat → Prop) (U : State) (H : Heap) : Prop :=
  aTb U ∧ va_K X.1 vwCl (aTy X) U ∧ va_AO RX4 U ∧ aTx U ∧ aNc U ∧ aSt X A U H
theorem aEn.warm {X : aX} {A : Nat → Prop} {u U : State} {H : Heap} (hW : u.WarmedH U.vm) (h : aEn X A u H) : aEn X A U H :=
  ⟨h.1.warm hW, h.2.1.moved hW.alike, h.2.2.1.moved hW.alike, h.2.2.2.1.warm hW, h.2.2.2.2.1.moved hW.alike, h.2.2.2.2.2.moved hW.alike⟩
theorem aEn.kept {X : aX} {A : Nat → Prop} {U : State} {H H1 : Heap} (h : aEn X A U H) (hq : ∀ a : Nat, a < H.size → ¬ A a → H1[a]? = H[a]?) : aEn X A U H1 :=
  ⟨h.1, h.2.1, h.2.2.1, h.2.2.2.1, h.2.2.2.2.1, h.2.2.2.2.2.kept hq⟩
theorem aEn.narrow {X : aX} {A B : Nat → Prop} {U : State} {H : Heap} (h : aEn X A U H) (hAB : ∀ q, B q → A q) : aEn X B U H :=
  ⟨h.1, h.2.1, h.2.2.1, h.2.2.2.1, h.2.2.2.2.1, h.2.2.2.2.2.narrow hAB⟩
/-! ===== a method, and the judgement of a point of its walk ===== -/
/-- name, bytes, locals, answer, handlers, then its room: frames, words, cells, slots -/
abbrev aM : Type := MethodName × ByteArray × Nat × Option FieldType × List (Nat × Nat × Nat × Nat) × Nat × Nat × Nat × Nat
abbrev aRm (M : aM) : Room := { frames := M.2.2.2.2.2.1, cells := M.2.2.2.2.2.2.2.1, slots := M.2.2.2.2.2.2.2.2, locals := M.2.2.2.2.2.2.1 }
abbrev aMc (M : aM) : Nat := M.2.2.2.2.2.2.2.1
abbrev aMs (M : aM) : Nat := M.2.2.2.2.2.2.2.2
/-- the word of its code -/
def aCd (M : aM) : Cond := match M.2.2.2.2.1 with
  | [] => .code M.1 M.2.1 M.2.2.1 M.2.2.2.1
  | q :: l => .codeWith M.1 M.2.1 M.2.2.1 M.2.2.2.1 (q :: l)
def aFx (M : aM) (p : Program) (s : State) (m : MethodId) (meth : Method) (c : Code) : Prop :=
  p.tables.exec = Jvm.exec ∧ c.code = M.2.1 ∧ meth.sig.returnType = M.2.2.2.1 ∧ c.maxLocals = M.2.2.1 ∧ s.vm.findClass M.1.cls = some m.cls ∧ meth.locks = false ∧ meth.name = M.1.name ∧ c.exceptionTable.toList = tableOf M.2.2.2.2.1
/-- how a walk ends: roots, and what it owes -/
abbrev aPh : Type := List Nat × (State → Array Value → List Frame → (Nat → Prop) → (Nat → Nat) → State → Prop)
def aBs (X : aX) (M : aM) (p : Program) (s : State) (m : MethodId) (meth : Method) (c : Code) (A : Nat → Prop) : Prop :=
  aFx M p s m meth c ∧ aEn X A s s.heap ∧ ∀ q, s.heap.size ≤ q → A q
def aHp (X : aX) (ad : Nat → Nat) (h : List aCell) (A : Nat → Prop) (H : Heap) : Prop := va_P X.1 vwCl (aW X ad h) H ∧ va_D A (aW X ad h)
def aPt (X : aX) (M : aM) (rs : List Nat) (A : Nat → Prop) (H0 : Heap) (ad0 : Nat → Nat) (L : List Value) (h : List aCell) (ad : Nat → Nat) (H : Heap) (locs : List Loc) (ls : Array Slot) : Prop :=
  (∀ i ∈ rs, ad i = ad0 i) ∧ va_S A H0 H locs ∧ aHp X ad h A H ∧ aLv X ad ls M.2.2.1 L
def aJ (l : Launch) (X : aX) (M : aM) (F : aPh) (kc ks pc : Nat) (L st : List Value) (h : List aCell) : Prop :=
  ∀ (p : Program) (e : Env) (s : State) (m : MethodId) (args : Array Value) (below : List Frame) (meth : Method) (c : Code) (H : Heap) (locs : List Loc) (ls : Array Slot) (A : Nat → Prop) (ad ad0 : Nat → Nat),
    aBs X M p s m meth c A → aPt X M F.1 A s.heap ad0 L h ad H locs ls →
    W p l e (aRm M) s m args below meth c H locs kc ks (F.2 s args below A ad0) (F0 m pc ls (st.map (aV X ad)))
/-- the class E has been thrown at pc -/
def aT (l : Launch) (X : aX) (M : aM) (F : aPh) (kc ks pc : Nat) (E : String) (L st : List Value) (h : List aCell) : Prop :=
  ∀ (p : Program) (e : Env) (s : State) (m : MethodId) (args : Array Value) (below : List Frame) (meth : Method) (c : Code) (H : Heap) (locs : List Loc) (ls : Array Slot) (A : Nat → Prop) (ad ad0 : Nat → Nat) (q : Addr) (ce : Cell),
    aBs X M p s m meth c A → aPt X M F.1 A s.heap ad0 L h ad H locs ls → H[q]? = some ce → ce.vm = .none → s.vm.findClass E = some ce.cls →
    vx_W p l e (aRm M) s m args below meth c H locs kc ks (F.2 s args below A ad0) (F0 m pc ls (st.map (aV X ad))) q
/-- a contract: what is answered or thrown, and the cells behind it -/
abbrev aQt : Type := (Option Value) ⊕ String → List aCell → Prop
def aQc (X : aX) (rs : List Nat) (ad0 : Nat → Nat) (A : Nat → Prop) (Q : aQt) : Array Value → State → Outcome → State → Prop := fun _ st o t =>
  (∃ (v : Option Value) (ad : Nat → Nat) (h : List aCell), o = .returned (v.map (aV X ad)) ∧ Q (.inl v) h ∧ (∀ i ∈ rs, ad i = ad0 i) ∧ aHp X ad h A t.heap) ∧ va_F A st t
def aXc (X : aX) (rs : List Nat) (ad0 : Nat → Nat) (A : Nat → Prop) (Q : aQt) : String → State → State → Prop := fun E st t =>
  (∃ (ad : Nat → Nat) (h : List aCell), Q (.inr E) h ∧ (∀ i ∈ rs, ad i = ad0 i) ∧ aHp X ad h A t.heap) ∧ va_F A st t
abbrev aEd (X : aX) (M : aM) (rs : List Nat) (Q : aQt) : aPh := (rs, fun s args below A ad0 => vx_MQ below (aQc X rs ad0 A Q) (aXc X rs ad0 A Q) args s (aMc M) (aMs M) A)
def aMt (l : Launch) (X : aX) (M : aM) (rs : List Nat) (av : List Value) (h : List aCell) (Q : aQt) : Prop :=
  ∀ (ad : Nat → Nat) (sz : Nat), vx_Met l M.1 [aCd M] (aRm M) (va_Pc (av.map (aV X ad)) (fun U => U.heap.size = sz ∧ va_P X.1 vwCl (aW X ad h) U.heap ∧ va_D (fun _ => True) (aW X ad h) ∧ aEn X (va_A (aW X ad h) sz) U U.heap))
    (aQc X rs ad (va_A (aW X ad h) sz) Q) (aXc X rs ad (va_A (aW X ad h) sz) Q) (aMc M) (aMs M) (va_A (aW X ad h) sz)
/-- a contract out of the walk of a body (a method without handlers) -/
theorem aMt.of {l : Launch} {X : aX} {M : aM} {rs : List Nat} {av : List Value} {h : List aCell} {Q : aQt} (hy : plainName M.1.cls = true) (hh : M.2.2.2.2.1 = []) (hn : (aArg av).length ≤ M.2.2.1)
    (k : aJ l X M (aEd X M rs Q) 0 0 0 (aPad av M.2.2.1) [] h) : aMt l X M rs av h Q := by
  intro ad sz
  have hcd : aCd M = .code M.1 M.2.1 M.2.2.1 M.2.2.2.1 := by unfold aCd; rw [hh]
  refine vx_ofW (cc := M.2.1) (maxL := M.2.2.1) (ret := M.2.2.2.1) (ws' := []) hy (by rw [hcd]) ?_
  intro p e s m args below meth c s₁ B hml ht hv
  obtain ⟨rfl, hsz, hP, hD0, hE⟩ := hv
  have hown : s.vm.findClass M.1.cls = some m.cls := findClass_of_methodNamed B.named
  have hnm : meth.name = M.1.name := (name_of_methodNamed B.named B.method).1
  have htab : c.exceptionTable.toList = tableOf M.2.2.2.2.1 := by
    rw [hh]
    exact List.eq_nil_iff_forall_not_mem.mpr ht
  subst hsz
  have hD := hD0.self (sz := s.heap.size)
  rw [lg_entry_eq]
  exact k p e s m _ below meth c s.heap [] _ (va_A (aW X ad h) s.heap.size) ad ad ⟨⟨B.exec, B.bytes, B.returns, hml, hown, B.notSynchronized, hnm, htab⟩, hE, fun q hq => Or.inr hq⟩
    ⟨fun _ _ => rfl, va_S.rf, ⟨hP, hD⟩, aLv.entry X ad av hn⟩
/-- a contract out of the walk of a body with handlers -/
theorem aMt.ofH {l : Launch} {X : aX} {M : aM} {rs : List Nat} {av : List Value} {h : List aCell} {Q : aQt} (hy : plainName M.1.cls = true) (hcd : aCd M = .codeWith M.1 M.2.1 M.2.2.1 M.2.2.2.1 M.2.2.2.2.1) (hn : (aArg av).length ≤ M.2.2.1)
    (k : aJ l X M (aEd X M rs Q) 0 0 0 (aPad av M.2.2.1) [] h) : aMt l X M rs av h Q := by
  intro ad sz
  refine vx_ofWH (cc := M.2.1) (maxL := M.2.2.1) (ret := M.2.2.2.1) (hh := M.2.2.2.2.1) (ws' := []) hy (by rw [hcd]) ?_
  intro p e s m args below meth c s₁ B hml hv
  obtain ⟨rfl, hsz, hP, hD0, hE⟩ := hv
  have hown : s.vm.findClass M.1.cls = some m.cls := findClass_of_methodNamed B.named
  have hnm : meth.name = M.1.name := (name_of_methodNamed B.named B.method).1
  have hw : (aCd M).before (av.map (aV X ad)).toArray s = true := atoms_spec (ws := [aCd M]) B.pre _ List.mem_cons_self
  rw [hcd] at hw
  have htab : c.exceptionTable.toList = tableOf M.2.2.2.2.1 := vx_table (x := M.1) B hw
  subst hsz
  have hD := hD0.self (sz := s.heap.size)
  rw [lg_entry_eq]
  exact k p e s m _ below meth c s.heap [] _ (va_A (aW X ad h) s.heap.size) ad ad ⟨⟨B.exec, B.bytes, B.returns, hml, hown, B.notSynchronized, hnm, htab⟩, hE, fun q hq => Or.inr hq⟩
    ⟨fun _ _ => rfl, va_S.rf, ⟨hP, hD⟩, aLv.entry X ad av hn⟩
end
section
/-! ===== rows: one instruction each (written by wip/whole/rows.py) ===== -/
section AR
variable {l : Launch} {X : aX} {M : aM} {F : aPh} {kc ks pc : Nat} {L st : List Value} {h : List aCell}
theorem a_iadd {x y : Int32} (hd : decode M.2.1 pc = .ok (.iadd, 1))  (k : aJ l X M F kc ks (pc + 1) L (.int (x + y) :: st) h) : aJ l X M F kc ks pc L (.int y :: .int x :: st) h :=
  fun p e s m args below meth c H locs ls A ad ad0 B S => lv_iadd B.1.1 B.1.2.1 hd (k p e s m args below meth c H locs ls A ad ad0 B S)
theorem a_isub {x y : Int32} (hd : decode M.2.1 pc = .ok (.isub, 1))  (k : aJ l X M F kc ks (pc + 1) L (.int (x - y) :: st) h) : aJ l X M F kc ks pc L (.int y :: .int x :: st) h :=
  fun p e s m args below meth c H locs ls A ad ad0 B S => lv_isub B.1.1 B.1.2.1 hd (k p e s m args below meth c H locs ls A ad ad0 B S)
theorem a_imul {x y : Int32} (hd : decode M.2.1 pc = .ok (.imul, 1))  (k : aJ l X M F kc ks (pc + 1) L (.int (x * y) :: st) h) : aJ l X M F kc ks pc L (.int y :: .int x :: st) h :=
  fun p e s m args below meth c H locs ls A ad ad0 B S => lv_imul B.1.1 B.1.2.1 hd (k p e s m args below meth c H locs ls A ad ad0 B S)
theorem a_iand {x y : Int32} (hd : decode M.2.1 pc = .ok (.iand, 1))  (k : aJ l X M F kc ks (pc + 1) L (.int (x &&& y) :: st) h) : aJ l X M F kc ks pc L (.int y :: .int x :: st) h :=
  fun p e s m args below meth c H locs ls A ad ad0 B S => lv_iand B.1.1 B.1.2.1 hd (k p e s m args below meth c H locs ls A ad ad0 B S)
theorem a_idiv {x y : Int32} (hd : decode M.2.1 pc = .ok (.idiv, 1)) (hne : ¬ y = 0) (k : aJ l X M F kc ks (pc + 1) L (.int (x / y) :: st) h) : aJ l X M F kc ks pc L (.int y :: .int x :: st) h :=
  fun p e s m args below meth c H locs ls A ad ad0 B S => lv_idiv B.1.1 B.1.2.1 hd hne (k p e s m args below meth c H locs ls A ad ad0 B S)
theorem a_irem {x y : Int32} (hd : decode M.2.1 pc = .ok (.irem, 1)) (hne : ¬ y = 0) (k : aJ l X M F kc ks (pc + 1) L (.int (x - x / y * y) :: st) h) : aJ l X M F kc ks pc L (.int y :: .int x :: st) h :=
  fun p e s m args below meth c H locs ls A ad ad0 B S => lv_irem B.1.1 B.1.2.1 hd hne (k p e s m args below meth c H locs ls A ad ad0 B S)
theorem a_ladd {x y : Int64} (hd : decode M.2.1 pc = .ok (.ladd, 1))  (k : aJ l X M F kc ks (pc + 1) L (.long (x + y) :: st) h) : aJ l X M F kc ks pc L (.long y :: .long x :: st) h :=
  fun p e s m args below meth c H locs ls A ad ad0 B S => lv_ladd B.1.1 B.1.2.1 hd (k p e s m args below meth c H locs ls A ad ad0 B S)
theorem a_lsub {x y : Int64} (hd : decode M.2.1 pc = .ok (.lsub, 1))  (k : aJ l X M F kc ks (pc + 1) L (.long (x - y) :: st) h) : aJ l X M F kc ks pc L (.long y :: .long x :: st) h :=
  fun p e s m args below meth c H locs ls A ad ad0 B S => lv_lsub B.1.1 B.1.2.1 hd (k p e s m args below meth c H locs ls A ad ad0 B S)
theorem a_lmul {x y : Int64} (hd : decode M.2.1 pc = .ok (.lmul, 1))  (k : aJ l X M F kc ks (pc + 1) L (.long (x * y) :: st) h) : aJ l X M F kc ks pc L (.long y :: .long x :: st) h :=
  fun p e s m args below meth c H locs ls A ad ad0 B S => lv_lmul B.1.1 B.1.2.1 hd (k p e s m args below meth c H locs ls A ad ad0 B S)
theorem a_lrem {x y : Int64} (hd : decode M.2.1 pc = .ok (.lrem, 1)) (hne : ¬ y = 0) (k : aJ l X M F kc ks (pc + 1) L (.long (x - x / y * y) :: st) h) : aJ l X M F kc ks pc L (.long y :: .long x :: st) h :=
  fun p e s m args below meth c H locs ls A ad ad0 B S => lv_lrem B.1.1 B.1.2.1 hd hne (k p e s m args below meth c H locs ls A ad ad0 B S)
theorem a_ddiv {x y : UInt64} (hd : decode M.2.1 pc = .ok (.ddiv, 1)) (hne : vf_n64 (FP.ddiv x y)) (k : aJ l X M F kc ks (pc + 1) L (.double (FP.ddiv x y) :: st) h) : aJ l X M F kc ks pc L (.double y :: .double x :: st) h :=
  fun p e s m args below meth c H locs ls A ad ad0 B S => lv_ddiv B.1.1 B.1.2.1 hd hne (k p e s m args below meth c H locs ls A ad ad0 B S)
theorem a_lcmp {x y : Int64} (hd : decode M.2.1 pc = .ok (.lcmp, 1))  (k : aJ l X M F kc ks (pc + 1) L (.int (lg_cmp x y) :: st) h) : aJ l X M F kc ks pc L (.long y :: .long x :: st) h :=
  fun p e s m args below meth c H locs ls A ad ad0 B S => W.lcmp B.1.1 B.1.2.1 hd (k p e s m args below meth c H locs ls A ad ad0 B S)
theorem a_dcmp {x y : UInt64} {op : CmpOp} (hd : decode M.2.1 pc = .ok (.dcmp op, 1))  (k : aJ l X M F kc ks (pc + 1) L (.int (Op.cmpValue (FP.dcmp x y) op) :: st) h) : aJ l X M F kc ks pc L (.double y :: .double x :: st) h :=
  fun p e s m args below meth c H locs ls A ad ad0 B S => lv_dcmp B.1.1 B.1.2.1 hd (k p e s m args below meth c H locs ls A ad ad0 B S)
theorem a_i2l {x : Int32} (hd : decode M.2.1 pc = .ok (.i2l, 1))  (k : aJ l X M F kc ks (pc + 1) L (.long x.toInt64 :: st) h) : aJ l X M F kc ks pc L (.int x :: st) h :=
  fun p e s m args below meth c H locs ls A ad ad0 B S => lv_i2l B.1.1 B.1.2.1 hd rfl (k p e s m args below meth c H locs ls A ad ad0 B S)
theorem a_l2i {x : Int64} (hd : decode M.2.1 pc = .ok (.l2i, 1))  (k : aJ l X M F kc ks (pc + 1) L (.int x.toInt32 :: st) h) : aJ l X M F kc ks pc L (.long x :: st) h :=
  fun p e s m args below meth c H locs ls A ad ad0 B S => lv_l2i B.1.1 B.1.2.1 hd rfl (k p e s m args below meth c H locs ls A ad ad0 B S)
theorem a_i2d {x : Int32} (hd : decode M.2.1 pc = .ok (.i2d, 1))  (k : aJ l X M F kc ks (pc + 1) L (.double (FP.i2d x) :: st) h) : aJ l X M F kc ks pc L (.int x :: st) h :=
  fun p e s m args below meth c H locs ls A ad ad0 B S => lv_i2d B.1.1 B.1.2.1 hd (k p e s m args below meth c H locs ls A ad ad0 B S)
theorem a_iconst {n : Int} (v : Int32) (hd : decode M.2.1 pc = .ok (.iconst n, 1)) (hv : Int32.ofInt n = v) (k : aJ l X M F kc ks (pc + 1) L (.int v :: st) h) : aJ l X M F kc ks pc L (st) h :=
  fun p e s m args below meth c H locs ls A ad ad0 B S => lv_iconst B.1.1 B.1.2.1 hd hv (k p e s m args below meth c H locs ls A ad ad0 B S)
theorem a_bipush {n : Int} (v : Int32) (hd : decode M.2.1 pc = .ok (.bipush n, 2)) (hv : (Int8.ofInt n).toInt32 = v) (k : aJ l X M F kc ks (pc + 2) L (.int v :: st) h) : aJ l X M F kc ks pc L (st) h :=
  fun p e s m args below meth c H locs ls A ad ad0 B S => lv_bipush B.1.1 B.1.2.1 hd hv (k p e s m args below meth c H locs ls A ad ad0 B S)
theorem a_sipush {n : Int} (v : Int32) (hd : decode M.2.1 pc = .ok (.sipush n, 3)) (hv : (Int16.ofInt n).toInt32 = v) (k : aJ l X M F kc ks (pc + 3) L (.int v :: st) h) : aJ l X M F kc ks pc L (st) h :=
  fun p e s m args below meth c H locs ls A ad ad0 B S => lv_sipush B.1.1 B.1.2.1 hd hv (k p e s m args below meth c H locs ls A ad ad0 B S)
theorem a_lconst {n : Fin 2} (v : Int64) (hd : decode M.2.1 pc = .ok (.lconst n, 1)) (hv : Int64.ofNat (n : Nat) = v) (k : aJ l X M F kc ks (pc + 1) L (.long v :: st) h) : aJ l X M F kc ks pc L (st) h :=
  fun p e s m args below meth c H locs ls A ad ad0 B S => lv_lconst B.1.1 B.1.2.1 hd hv (k p e s m args below meth c H locs ls A ad ad0 B S)
theorem a_dconst0  (hd : decode M.2.1 pc = .ok (.dconst 0, 1))  (k : aJ l X M F kc ks (pc + 1) L (.double FP.dconst0 :: st) h) : aJ l X M F kc ks pc L (st) h :=
  fun p e s m args below meth c H locs ls A ad ad0 B S => lv_dconst0 B.1.1 B.1.2.1 hd (k p e s m args below meth c H locs ls A ad ad0 B S)
theorem a_ldc {i : Nat} {v : Int32} (hd : decode M.2.1 pc = .ok (.ldc i, 2)) (hq : aQ (.constant M.1.cls i v)) (k : aJ l X M F kc ks (pc + 2) L (.int v :: st) h) : aJ l X M F kc ks pc L (st) h :=
  fun p e s m args below meth c H locs ls A ad ad0 B S => lv_ldc B.1.1 B.1.2.1 B.1.2.2.2.2.1 (B.2.1.1 _ hq _) hd (k p e s m args below meth c H locs ls A ad ad0 B S)
theorem a_ldc2 {i : Nat} {v : Int64} (hd : decode M.2.1 pc = .ok (.ldc2_w i, 3)) (hq : aQ (.constantLong M.1.cls i v)) (k : aJ l X M F kc ks (pc + 3) L (.long v :: st) h) : aJ l X M F kc ks pc L (st) h :=
  fun p e s m args below meth c H locs ls A ad ad0 B S => lv_ldc2 B.1.1 B.1.2.1 B.1.2.2.2.2.1 (B.2.1.1 _ hq _) hd (k p e s m args below meth c H locs ls A ad ad0 B S)
theorem a_dup {v : Value} (hd : decode M.2.1 pc = .ok (.dup, 1)) (hc : v.category = 1) (k : aJ l X M F kc ks (pc + 1) L (v :: v :: st) h) : aJ l X M F kc ks pc L (v :: st) h :=
  fun p e s m args below meth c H locs ls A ad ad0 B S => lv_dup B.1.1 B.1.2.1 hd ((aV_cat X ad v).trans hc) (k p e s m args below meth c H locs ls A ad ad0 B S)
theorem a_pop {v : Value} (hd : decode M.2.1 pc = .ok (.pop, 1)) (hc : v.category = 1) (k : aJ l X M F kc ks (pc + 1) L (st) h) : aJ l X M F kc ks pc L (v :: st) h :=
  fun p e s m args below meth c H locs ls A ad ad0 B S => lv_pop B.1.1 B.1.2.1 hd ((aV_cat X ad v).trans hc) (k p e s m args below meth c H locs ls A ad ad0 B S)
theorem a_dup2 {v w : Value} (hd : decode M.2.1 pc = .ok (.dup2, 1)) (hc : v.category = 1) (hc2 : w.category = 1) (k : aJ l X M F kc ks (pc + 1) L (v :: w :: v :: w :: st) h) : aJ l X M F kc ks pc L (v :: w :: st) h :=
  fun p e s m args below meth c H locs ls A ad ad0 B S => lv_dup2_11 B.1.1 B.1.2.1 hd ((aV_cat X ad v).trans hc) ((aV_cat X ad w).trans hc2) (k p e s m args below meth c H locs ls A ad ad0 B S)
theorem a_iload {i : Nat} {x : Int32} (hd : decode M.2.1 pc = .ok (.iload i, 2)) (hl : L[i]? = some (.int x)) (k : aJ l X M F kc ks (pc + 2) L (.int x :: st) h) : aJ l X M F kc ks pc L (st) h :=
  fun p e s m args below meth c H locs ls A ad ad0 B S => lv_iload B.1.1 B.1.2.1 hd (S.2.2.2.2.2 i _ hl (fun z => nomatch z)) (k p e s m args below meth c H locs ls A ad ad0 B S)
theorem a_iload_n {i : Fin 4} {x : Int32} (hd : decode M.2.1 pc = .ok (.iload_n i, 1)) (hl : L[(i : Nat)]? = some (.int x)) (k : aJ l X M F kc ks (pc + 1) L (.int x :: st) h) : aJ l X M F kc ks pc L (st) h :=
  fun p e s m args below meth c H locs ls A ad ad0 B S => lv_iload_n B.1.1 B.1.2.1 hd rfl (S.2.2.2.2.2 i _ hl (fun z => nomatch z)) (k p e s m args below meth c H locs ls A ad ad0 B S)
theorem a_lload {i : Nat} {x : Int64} (hd : decode M.2.1 pc = .ok (.lload i, 2)) (hl : L[i]? = some (.long x)) (k : aJ l X M F kc ks (pc + 2) L (.long x :: st) h) : aJ l X M F kc ks pc L (st) h :=
  fun p e s m args below meth c H locs ls A ad ad0 B S => lv_lload B.1.1 B.1.2.1 hd (S.2.2.2.2.2 i _ hl (fun z => nomatch z)) (k p e s m args below meth c H locs ls A ad ad0 B S)
theorem a_lload_n {i : Fin 4} {x : Int64} (hd : decode M.2.1 pc = .ok (.lload_n i, 1)) (hl : L[(i : Nat)]? = some (.long x)) (k : aJ l X M F kc ks (pc + 1) L (.long x :: st) h) : aJ l X M F kc ks pc L (st) h :=
  fun p e s m args below meth c H locs ls A ad ad0 B S => lv_lload_n B.1.1 B.1.2.1 hd rfl (S.2.2.2.2.2 i _ hl (fun z => nomatch z)) (k p e s m args below meth c H locs ls A ad ad0 B S)
theorem a_dload {i : Nat} {x : UInt64} (hd : decode M.2.1 pc = .ok (.dload i, 2)) (hl : L[i]? = some (.double x)) (k : aJ l X M F kc ks (pc + 2) L (.double x :: st) h) : aJ l X M F kc ks pc L (st) h :=
  fun p e s m args below meth c H locs ls A ad ad0 B S => lv_dload B.1.1 B.1.2.1 hd (S.2.2.2.2.2 i _ hl (fun z => nomatch z)) (k p e s m args below meth c H locs ls A ad ad0 B S)
theorem a_dload_n {i : Fin 4} {x : UInt64} (hd : decode M.2.1 pc = .ok (.dload_n i, 1)) (hl : L[(i : Nat)]? = some (.double x)) (k : aJ l X M F kc ks (pc + 1) L (.double x :: st) h) : aJ l X M F kc ks pc L (st) h :=
  fun p e s m args below meth c H locs ls A ad ad0 B S => lv_dload_n B.1.1 B.1.2.1 hd rfl (S.2.2.2.2.2 i _ hl (fun z => nomatch z)) (k p e s m args below meth c H locs ls A ad ad0 B S)
theorem a_aload {i : Nat} {x : Nat} (hd : decode M.2.1 pc = .ok (.aload i, 2)) (hl : L[i]? = some (.ref x)) (k : aJ l X M F kc ks (pc + 2) L (.ref x :: st) h) : aJ l X M F kc ks pc L (st) h :=
  fun p e s m args below meth c H locs ls A ad ad0 B S => lv_aload B.1.1 B.1.2.1 hd (S.2.2.2.2.2 i _ hl (fun z => nomatch z)) (k p e s m args below meth c H locs ls A ad ad0 B S)
theorem a_aload_n {i : Fin 4} {x : Nat} (hd : decode M.2.1 pc = .ok (.aload_n i, 1)) (hl : L[(i : Nat)]? = some (.ref x)) (k : aJ l X M F kc ks (pc + 1) L (.ref x :: st) h) : aJ l X M F kc ks pc L (st) h :=
  fun p e s m args below meth c H locs ls A ad ad0 B S => lv_aload_n B.1.1 B.1.2.1 hd rfl (S.2.2.2.2.2 i _ hl (fun z => nomatch z)) (k p e s m args below meth c H locs ls A ad ad0 B S)
theorem a_xload_n {i : Fin 4} {x : Nat} (hd : decode M.2.1 pc = .ok (.aload_n i, 1)) (hl : L[(i : Nat)]? = some (.retAddr x)) (k : aJ l X M F kc ks (pc + 1) L (.retAddr x :: st) h) : aJ l X M F kc ks pc L st h :=
  fun p e s m args below meth c H locs ls A ad ad0 B S => lv_aload_n B.1.1 B.1.2.1 hd rfl (S.2.2.2.2.2 i _ hl (fun z => nomatch z)) (k p e s m args below meth c H locs ls A ad ad0 B S)
theorem a_istore {i : Nat} {x : Int32} (hd : decode M.2.1 pc = .ok (.istore i, 2)) (hn : i < M.2.2.1) (hw : aLow L i = true) (k : aJ l X M F kc ks (pc + 2) (L.set i (.int x)) st h) : aJ l X M F kc ks pc L (.int x :: st) h :=
  fun p e s m args below meth c H locs ls A ad ad0 B S => lv_istore B.1.1 B.1.2.1 hd (aLv.has S.2.2.2) hn rfl (fun ls' hl' => k p e s m args below meth c H locs ls' A ad ad0 B ⟨S.1, S.2.1, S.2.2.1, aLv.put1 hw hl'⟩)
theorem a_istore_n {i : Fin 4} {x : Int32} (hd : decode M.2.1 pc = .ok (.istore_n i, 1)) (hn : (i : Nat) < M.2.2.1) (hw : aLow L i = true) (k : aJ l X M F kc ks (pc + 1) (L.set (i : Nat) (.int x)) st h) : aJ l X M F kc ks pc L (.int x :: st) h :=
  fun p e s m args below meth c H locs ls A ad ad0 B S => lv_istore_n B.1.1 B.1.2.1 hd rfl (aLv.has S.2.2.2) hn rfl (fun ls' hl' => k p e s m args below meth c H locs ls' A ad ad0 B ⟨S.1, S.2.1, S.2.2.1, aLv.put1 hw hl'⟩)
theorem a_lstore {i : Nat} {x : Int64} (hd : decode M.2.1 pc = .ok (.lstore i, 2)) (hn : i + 1 < M.2.2.1) (hw : aLow L i = true) (k : aJ l X M F kc ks (pc + 2) ((L.set i (.long x)).set (i + 1) .null) st h) : aJ l X M F kc ks pc L (.long x :: st) h :=
  fun p e s m args below meth c H locs ls A ad ad0 B S => lv_lstore B.1.1 B.1.2.1 hd (aLv.has S.2.2.2) hn rfl (fun ls' hl' => k p e s m args below meth c H locs ls' A ad ad0 B ⟨S.1, S.2.1, S.2.2.1, aLv.put2 hw hl'⟩)
theorem a_lstore_n {i : Fin 4} {x : Int64} (hd : decode M.2.1 pc = .ok (.lstore_n i, 1)) (hn : (i : Nat) + 1 < M.2.2.1) (hw : aLow L i = true) (k : aJ l X M F kc ks (pc + 1) ((L.set (i : Nat) (.long x)).set ((i : Nat) + 1) .null) st h) : aJ l X M F kc ks pc L (.long x :: st) h :=
  fun p e s m args below meth c H locs ls A ad ad0 B S => lv_lstore_n B.1.1 B.1.2.1 hd rfl (aLv.has S.2.2.2) hn rfl (fun ls' hl' => k p e s m args below meth c H locs ls' A ad ad0 B ⟨S.1, S.2.1, S.2.2.1, aLv.put2 hw hl'⟩)
theorem a_dstore {i : Nat} {x : UInt64} (hd : decode M.2.1 pc = .ok (.dstore i, 2)) (hn : i + 1 < M.2.2.1) (hw : aLow L i = true) (k : aJ l X M F kc ks (pc + 2) ((L.set i (.double x)).set (i + 1) .null) st h) : aJ l X M F kc ks pc L (.double x :: st) h :=
  fun p e s m args below meth c H locs ls A ad ad0 B S => lv_dstore B.1.1 B.1.2.1 hd (aLv.has S.2.2.2) hn rfl (fun ls' hl' => k p e s m args below meth c H locs ls' A ad ad0 B ⟨S.1, S.2.1, S.2.2.1, aLv.put2 hw hl'⟩)
theorem a_dstore_n {i : Fin 4} {x : UInt64} (hd : decode M.2.1 pc = .ok (.dstore_n i, 1)) (hn : (i : Nat) + 1 < M.2.2.1) (hw : aLow L i = true) (k : aJ l X M F kc ks (pc + 1) ((L.set (i : Nat) (.double x)).set ((i : Nat) + 1) .null) st h) : aJ l X M F kc ks pc L (.double x :: st) h :=
  fun p e s m args below meth c H locs ls A ad ad0 B S => lv_dstore_n B.1.1 B.1.2.1 hd rfl (aLv.has S.2.2.2) hn rfl (fun ls' hl' => k p e s m args below meth c H locs ls' A ad ad0 B ⟨S.1, S.2.1, S.2.2.1, aLv.put2 hw hl'⟩)
theorem a_astore {i : Nat} {x : Nat} (hd : decode M.2.1 pc = .ok (.astore i, 2)) (hn : i < M.2.2.1) (hw : aLow L i = true) (k : aJ l X M F kc ks (pc + 2) (L.set i (.ref x)) st h) : aJ l X M F kc ks pc L (.ref x :: st) h :=
  fun p e s m args below meth c H locs ls A ad ad0 B S => lv_astore B.1.1 B.1.2.1 hd (aLv.has S.2.2.2) hn rfl (fun ls' hl' => k p e s m args below meth c H locs ls' A ad ad0 B ⟨S.1, S.2.1, S.2.2.1, aLv.put1 hw hl'⟩)
theorem a_astore_n {i : Fin 4} {x : Nat} (hd : decode M.2.1 pc = .ok (.astore_n i, 1)) (hn : (i : Nat) < M.2.2.1) (hw : aLow L i = true) (k : aJ l X M F kc ks (pc + 1) (L.set (i : Nat) (.ref x)) st h) : aJ l X M F kc ks pc L (.ref x :: st) h :=
  fun p e s m args below meth c H locs ls A ad ad0 B S => lv_astore_n B.1.1 B.1.2.1 hd rfl (aLv.has S.2.2.2) hn rfl (fun ls' hl' => k p e s m args below meth c H locs ls' A ad ad0 B ⟨S.1, S.2.1, S.2.2.1, aLv.put1 hw hl'⟩)
theorem a_iinc {i : Nat} {n : Int} {x : Int32} (v : Int32) (hd : decode M.2.1 pc = .ok (.iinc i n, 3)) (hl : L[i]? = some (.int x)) (hv : x + Int32.ofInt n = v) (hn : i < M.2.2.1) (hw : aLow L i = true) (k : aJ l X M F kc ks (pc + 3) (L.set i (.int v)) st h) : aJ l X M F kc ks pc L st h := by
  intro p e s m args below meth c H locs ls A ad ad0 B S
  obtain ⟨j, hj⟩ := List.getElem?_of_mem (aEl_mem (X := X) (ad := ad) (q := (i, .int x)) |>.mpr ⟨_, hl, (fun z => nomatch z), rfl⟩)
  exact lv_iinc B.1.1 B.1.2.1 hd (aLv.has S.2.2.2) hj hv hn rfl (fun ls' hl' => k p e s m args below meth c H locs ls' A ad ad0 B ⟨S.1, S.2.1, S.2.2.1, aLv.put1 hw hl'⟩)
theorem a_drop (i : Nat) (k : aJ l X M F kc ks pc (L.set i .null) st h) : aJ l X M F kc ks pc L st h := by
  intro p e s m args below meth c H locs ls A ad ad0 B S
  refine k p e s m args below meth c H locs ls A ad ad0 B ⟨S.1, S.2.1, S.2.2.1, S.2.2.2.1, S.2.2.2.2.1, fun j v hj hv => ?_⟩
  rw [List.getElem?_set] at hj
  by_cases hij : i = j
  · rw [if_pos hij] at hj
    by_cases hl : j < L.length
    · rw [if_pos (hij ▸ hl)] at hj
      exact absurd (Option.some.inj hj).symm hv
    · rw [if_neg (hij ▸ hl)] at hj
      cases hj
  · rw [if_neg hij] at hj
    exact S.2.2.2.2.2 j v hj hv
theorem a_loc (L' : List Value) (hL : ∀ (i : Nat) (v : Value), L'[i]? = some v → v ≠ .null → L[i]? = some v) (k : aJ l X M F kc ks pc L' st h) : aJ l X M F kc ks pc L st h :=
  fun p e s m args below meth c H locs ls A ad ad0 B S => k p e s m args below meth c H locs ls A ad ad0 B ⟨S.1, S.2.1, S.2.2.1, S.2.2.2.1, S.2.2.2.2.1, fun j v hj hv => S.2.2.2.2.2 j v (hL j v hj hv) hv⟩
theorem a_wid {kc' ks' : Nat} (h1 : kc ≤ kc') (h2 : ks ≤ ks') (k : aJ l X M F kc' ks' pc L st h) : aJ l X M F kc ks pc L st h :=
  fun p e s m args below meth c H locs ls A ad ad0 B S => W.widen h1 h2 (k p e s m args below meth c H locs ls A ad ad0 B S)
theorem a_to {pc' : Nat} {L' st' : List Value} {h' : List aCell} (e1 : pc = pc') (e2 : L = L') (e3 : st = st') (e4 : h = h') (k : aJ l X M F kc ks pc' L' st' h') : aJ l X M F kc ks pc L st h := by
  subst e1; subst e2; subst e3; subst e4; exact k
theorem a_if_eq {x : Int32} {off : Int} (tgt : Nat) (hd : decode M.2.1 pc = .ok (.ifCond .eq off, 3)) (ht : (pc : Int) + off = (tgt : Int)) (kt : x = 0 → aJ l X M F kc ks tgt L st h) (kf : ¬ x = 0 → aJ l X M F kc ks (pc + 3) L st h) : aJ l X M F kc ks pc L (.int x :: st) h :=
  fun p e s m args below meth c H locs ls A ad ad0 B S => lv_if_eq B.1.1 B.1.2.1 hd ht (fun z => kt z p e s m args below meth c H locs ls A ad ad0 B S) (fun z => kf z p e s m args below meth c H locs ls A ad ad0 B S)
theorem a_icmp_eq {x y : Int32} {off : Int} (tgt : Nat) (hd : decode M.2.1 pc = .ok (.if_icmp .eq off, 3)) (ht : (pc : Int) + off = (tgt : Int)) (kt : x = y → aJ l X M F kc ks tgt L st h) (kf : ¬ x = y → aJ l X M F kc ks (pc + 3) L st h) : aJ l X M F kc ks pc L (.int y :: .int x :: st) h :=
  fun p e s m args below meth c H locs ls A ad ad0 B S => lv_icmp_eq B.1.1 B.1.2.1 hd ht (fun z => kt z p e s m args below meth c H locs ls A ad ad0 B S) (fun z => kf z p e s m args below meth c H locs ls A ad ad0 B S)
theorem a_if_ne {x : Int32} {off : Int} (tgt : Nat) (hd : decode M.2.1 pc = .ok (.ifCond .ne off, 3)) (ht : (pc : Int) + off = (tgt : Int)) (kt : ¬ x = 0 → aJ l X M F kc ks tgt L st h) (kf : x = 0 → aJ l X M F kc ks (pc + 3) L st h) : aJ l X M F kc ks pc L (.int x :: st) h :=
  fun p e s m args below meth c H locs ls A ad ad0 B S => lv_if_ne B.1.1 B.1.2.1 hd ht (fun z => kt z p e s m args below meth c H locs ls A ad ad0 B S) (fun z => kf z p e s m args below meth c H locs ls A ad ad0 B S)
theorem a_icmp_ne {x y : Int32} {off : Int} (tgt : Nat) (hd : decode M.2.1 pc = .ok (.if_icmp .ne off, 3)) (ht : (pc : Int) + off = (tgt : Int)) (kt : ¬ x = y → aJ l X M F kc ks tgt L st h) (kf : x = y → aJ l X M F kc ks (pc + 3) L st h) : aJ l X M F kc ks pc L (.int y :: .int x :: st) h :=
  fun p e s m args below meth c H locs ls A ad ad0 B S => lv_icmp_ne B.1.1 B.1.2.1 hd ht (fun z => kt z p e s m args below meth c H locs ls A ad ad0 B S) (fun z => kf z p e s m args below meth c H locs ls A ad ad0 B S)
theorem a_if_lt {x : Int32} {off : Int} (tgt : Nat) (hd : decode M.2.1 pc = .ok (.ifCond .lt off, 3)) (ht : (pc : Int) + off = (tgt : Int)) (kt : x < 0 → aJ l X M F kc ks tgt L st h) (kf : ¬ x < 0 → aJ l X M F kc ks (pc + 3) L st h) : aJ l X M F kc ks pc L (.int x :: st) h :=
  fun p e s m args below meth c H locs ls A ad ad0 B S => lv_if_lt B.1.1 B.1.2.1 hd ht (fun z => kt z p e s m args below meth c H locs ls A ad ad0 B S) (fun z => kf z p e s m args below meth c H locs ls A ad ad0 B S)
theorem a_icmp_lt {x y : Int32} {off : Int} (tgt : Nat) (hd : decode M.2.1 pc = .ok (.if_icmp .lt off, 3)) (ht : (pc : Int) + off = (tgt : Int)) (kt : x < y → aJ l X M F kc ks tgt L st h) (kf : ¬ x < y → aJ l X M F kc ks (pc + 3) L st h) : aJ l X M F kc ks pc L (.int y :: .int x :: st) h :=
  fun p e s m args below meth c H locs ls A ad ad0 B S => lv_icmp_lt B.1.1 B.1.2.1 hd ht (fun z => kt z p e s m args below meth c H locs ls A ad ad0 B S) (fun z => kf z p e s m args below meth c H locs ls A ad ad0 B S)
theorem a_if_ge {x : Int32} {off : Int} (tgt : Nat) (hd : decode M.2.1 pc = .ok (.ifCond .ge off, 3)) (ht : (pc : Int) + off = (tgt : Int)) (kt : 0 ≤ x → aJ l X M F kc ks tgt L st h) (kf : ¬ 0 ≤ x → aJ l X M F kc ks (pc + 3) L st h) : aJ l X M F kc ks pc L (.int x :: st) h :=
  fun p e s m args below meth c H locs ls A ad ad0 B S => lv_if_ge B.1.1 B.1.2.1 hd ht (fun z => kt z p e s m args below meth c H locs ls A ad ad0 B S) (fun z => kf z p e s m args below meth c H locs ls A ad ad0 B S)
theorem a_icmp_ge {x y : Int32} {off : Int} (tgt : Nat) (hd : decode M.2.1 pc = .ok (.if_icmp .ge off, 3)) (ht : (pc : Int) + off = (tgt : Int)) (kt : y ≤ x → aJ l X M F kc ks tgt L st h) (kf : ¬ y ≤ x → aJ l X M F kc ks (pc + 3) L st h) : aJ l X M F kc ks pc L (.int y :: .int x :: st) h :=
  fun p e s m args below meth c H locs ls A ad ad0 B S => lv_icmp_ge B.1.1 B.1.2.1 hd ht (fun z => kt z p e s m args below meth c H locs ls A ad ad0 B S) (fun z => kf z p e s m args below meth c H locs ls A ad ad0 B S)
theorem a_if_gt {x : Int32} {off : Int} (tgt : Nat) (hd : decode M.2.1 pc = .ok (.ifCond .gt off, 3)) (ht : (pc : Int) + off = (tgt : Int)) (kt : 0 < x → aJ l X M F kc ks tgt L st h) (kf : ¬ 0 < x → aJ l X M F kc ks (pc + 3) L st h) : aJ l X M F kc ks pc L (.int x :: st) h :=
  fun p e s m args below meth c H locs ls A ad ad0 B S => lv_if_gt B.1.1 B.1.2.1 hd ht (fun z => kt z p e s m args below meth c H locs ls A ad ad0 B S) (fun z => kf z p e s m args below meth c H locs ls A ad ad0 B S)
theorem a_icmp_gt {x y : Int32} {off : Int} (tgt : Nat) (hd : decode M.2.1 pc = .ok (.if_icmp .gt off, 3)) (ht : (pc : Int) + off = (tgt : Int)) (kt : y < x → aJ l X M F kc ks tgt L st h) (kf : ¬ y < x → aJ l X M F kc ks (pc + 3) L st h) : aJ l X M F kc ks pc L (.int y :: .int x :: st) h :=
  fun p e s m args below meth c H locs ls A ad ad0 B S => lv_icmp_gt B.1.1 B.1.2.1 hd ht (fun z => kt z p e s m args below meth c H locs ls A ad ad0 B S) (fun z => kf z p e s m args below meth c H locs ls A ad ad0 B S)
theorem a_if_le {x : Int32} {off : Int} (tgt : Nat) (hd : decode M.2.1 pc = .ok (.ifCond .le off, 3)) (ht : (pc : Int) + off = (tgt : Int)) (kt : x ≤ 0 → aJ l X M F kc ks tgt L st h) (kf : ¬ x ≤ 0 → aJ l X M F kc ks (pc + 3) L st h) : aJ l X M F kc ks pc L (.int x :: st) h :=
  fun p e s m args below meth c H locs ls A ad ad0 B S => lv_if_le B.1.1 B.1.2.1 hd ht (fun z => kt z p e s m args below meth c H locs ls A ad ad0 B S) (fun z => kf z p e s m args below meth c H locs ls A ad ad0 B S)
theorem a_icmp_le {x y : Int32} {off : Int} (tgt : Nat) (hd : decode M.2.1 pc = .ok (.if_icmp .le off, 3)) (ht : (pc : Int) + off = (tgt : Int)) (kt : x ≤ y → aJ l X M F kc ks tgt L st h) (kf : ¬ x ≤ y → aJ l X M F kc ks (pc + 3) L st h) : aJ l X M F kc ks pc L (.int y :: .int x :: st) h :=
  fun p e s m args below meth c H locs ls A ad ad0 B S => lv_icmp_le B.1.1 B.1.2.1 hd ht (fun z => kt z p e s m args below meth c H locs ls A ad ad0 B S) (fun z => kf z p e s m args below meth c H locs ls A ad ad0 B S)
theorem a_goto {off : Int} (tgt : Nat) (hd : decode M.2.1 pc = .ok (.goto off, 3)) (ht : (pc : Int) + off = (tgt : Int)) (k : aJ l X M F kc ks tgt L st h) : aJ l X M F kc ks pc L st h :=
  fun p e s m args below meth c H locs ls A ad ad0 B S => lv_goto B.1.1 B.1.2.1 hd ht (k p e s m args below meth c H locs ls A ad ad0 B S)
theorem a_ifnull {a : Nat} {off : Int} (hd : decode M.2.1 pc = .ok (.ifnull off, 3)) (k : aJ l X M F kc ks (pc + 3) L st h) : aJ l X M F kc ks pc L (.ref a :: st) h :=
  fun p e s m args below meth c H locs ls A ad ad0 B S => lv_ifnull B.1.1 B.1.2.1 hd (k p e s m args below meth c H locs ls A ad ad0 B S)
end AR
end
section
/-! ===== rows: fields, arrays, new cells, returns ===== -/
/-- entry idx of class own's pool is field k of class ci -/
def aFl (own : String) (idx ci k : Nat) : Prop := ∃ (C : String) (T : u_T) (N : Nat), vwCl[ci]? = some (C, T, N) ∧ (∀ w ∈ u_ws C T N, aQ w) ∧ k < N ∧ aQ (.fieldLink own idx (T k).1 (T k).2.1 (T k).2.2.1)
/-- .. of type ty, which may be written (fin: in the constructor alone) -/
def aFp (own : String) (idx ci k : Nat) (fin : Bool) (ty : FieldType) : Prop := ∃ (C : String) (T : u_T) (N : Nat) (tyf : Nat → FieldType), vwCl[ci]? = some (C, T, N) ∧ (∀ w ∈ u_ws C T N, aQ w) ∧ k < N ∧ aQ (.fieldLink own idx (T k).1 (T k).2.1 (T k).2.2.1) ∧
  (∀ k, k < N → parseFieldDescriptor (T k).2.2.1 = some (tyf k)) ∧ (∀ a, a < N → ∀ b, b < N → a ≠ b → (T a).2.1 ≠ (T b).2.1) ∧ (T k).2.2.2 = fin ∧ tyf k = ty ∧ (T k).1 = own
def aUp (ad : Nat → Nat) (n q : Nat) : Nat → Nat := fun j => if j = n then q else ad j
abbrev aBe (n : Nat) : Nat → Bool := fun i => decide (i < n)
def aOr (r : Option Nat) : Value := match r with
  | some t => .ref t
  | none => .null
theorem aW_congr {X : aX} {p : Nat → Bool} {f g : Nat → Nat} {h : List aCell} (hp : ∀ i, p i = true → f i = g i) (hh : h.all (aCo p) = true) (hl : ∀ i, i < h.length → f i = g i) : aW X f h = aW X g h := by
  apply List.ext_getElem?
  intro j
  rw [aW_get, aW_get]
  cases hj : h[j]? with
  | none => rfl
  | some e =>
    have h1 := (List.getElem?_eq_some_iff.mp hj).1
    show some (f j, aCc X (aRc f e)) = some (g j, aCc X (aRc g e))
    rw [hl j h1, aRc_congr hp (List.all_eq_true.mp hh e (List.mem_of_getElem? hj))]
theorem aW_app {X : aX} {ad : Nat → Nat} {h : List aCell} {e : aCell} : aW X ad (h ++ [e]) = aW X ad h ++ [(ad h.length, aCc X (aRc ad e))] := by
  apply List.ext_getElem?
  intro j
  rw [aW_get]
  by_cases hl : j < h.length
  · rw [List.getElem?_append_left hl, List.getElem?_append_left (by rw [aW, aMx_len]; exact hl), aW_get]
  · rw [List.getElem?_append_right (by omega), List.getElem?_append_right (by rw [aW, aMx_len]; omega)]
    rw [aW, aMx_len]
    by_cases hj : j = h.length
    · subst hj; simp
    · obtain ⟨z, hz⟩ : ∃ z, j - h.length = z + 1 := ⟨j - h.length - 1, by omega⟩
      rw [hz]; rfl
theorem aPt.up {X : aX} {M : aM} {rs : List Nat} {A : Nat → Prop} {H0 : Heap} {ad0 ad : Nat → Nat} {L st : List Value} {h : List aCell} {H : Heap} {locs : List Loc} {ls : Array Slot} {q : Nat}
    (hok : (L.all (aVo (aBe h.length)) && st.all (aVo (aBe h.length)) && h.all (aCo (aBe h.length)) && rs.all (aBe h.length)) = true) (S : aPt X M rs A H0 ad0 L h ad H locs ls) :
    (∀ i ∈ rs, aUp ad h.length q i = ad0 i) ∧ aW X (aUp ad h.length q) h = aW X ad h ∧ aLv X (aUp ad h.length q) ls M.2.2.1 L ∧ st.map (aV X (aUp ad h.length q)) = st.map (aV X ad) := by
  simp only [Bool.and_eq_true] at hok
  obtain ⟨⟨⟨h1, h2⟩, h3⟩, h4⟩ := hok
  have hp : ∀ i, aBe h.length i = true → aUp ad h.length q i = ad i := fun i hi => by
    have : i < h.length := of_decide_eq_true hi
    unfold aUp; rw [if_neg (by omega)]
  refine ⟨fun i hi => ?_, aW_congr hp h3 (fun i hi => hp i (decide_eq_true hi)), ⟨S.2.2.2.1, S.2.2.2.2.1, fun i v hi hv => ?_⟩, aVs_congr hp h2⟩
  · rw [hp i (List.all_eq_true.mp h4 i hi)]; exact S.1 i hi
  · rw [aV_congr hp (List.all_eq_true.mp h1 v (List.mem_of_getElem? hi))]; exact S.2.2.2.2.2 i v hi hv
section AMR
variable {l : Launch} {X : aX} {M : aM} {F : aPh} {kc ks pc : Nat} {L st : List Value} {h : List aCell}
theorem a_get {ci k a idx : Nat} {fs : List Value} {v : Value} (hf : aFl M.1.cls idx ci k) (hd : decode M.2.1 pc = .ok (.getfield idx, 3)) (hc : h[a]? = some (aOb ci fs)) (hv : fs[k]? = some v)
    (kk : aJ l X M F kc ks (pc + 3) L (v :: st) h) : aJ l X M F kc ks pc L (.ref a :: st) h := by
  intro p e s m args below meth c H locs ls A ad ad0 B S
  obtain ⟨C, T, N, hcl, hws, hk, hq⟩ := hf
  refine va_get (D := X.1) (cl := vwCl) (ci := ci) (C := C) (T := T) (N := N) (v := aV X ad v) (fs := (fs.map (aRv ad)).map (aCv X)) (Ts := u_ws C T N) B.1.1 B.1.2.1 (fun w hw => B.2.1.1 w (hws w hw) _) (fun _ hw => hw) B.1.2.2.2.2.1 B.2.1.2.1 S.2.2.1.1 a (aW_at hc) hcl k hk (B.2.1.1 _ hq _) (fun _ z => z) ?_ hd (kk p e s m args below meth c H locs ls A ad ad0 B S)
  rw [List.map_map, List.getElem?_map, hv]; rfl
theorem a_put {ci k a idx : Nat} {fs : List Value} {v : Value} {ty : FieldType} (hf : aFp M.1.cls idx ci k false ty) (hd : decode M.2.1 pc = .ok (.putfield idx, 3)) (hc : h[a]? = some (aOb ci fs)) (hl : k < fs.length) (hn : ∀ ad, narrow ty (aV X ad v) = aV X ad v ∧ fits ty (aV X ad v) = true)
    (kk : aJ l X M F kc ks (pc + 3) L st (h.set a (aOb ci (fs.set k v)))) : aJ l X M F kc ks pc L (v :: .ref a :: st) h := by
  intro p e s m args below meth c H locs ls A ad ad0 B S
  obtain ⟨C, T, N, tyf, hcl, hws, hk, hq, hty, hnm, hfin, hte, -⟩ := hf
  refine va_put (D := X.1) (cl := vwCl) (ci := ci) (C := C) (T := T) (N := N) (v := aV X ad v) (ty := ty) (fs := (fs.map (aRv ad)).map (aCv X)) (Ts := u_ws C T N) B.1.1 B.1.2.1 (fun w hw => B.2.1.1 w (hws w hw) _) (fun _ hw => hw) tyf hty hnm B.1.2.2.2.2.1 B.2.1.2.1 S.2.2.1.1 S.2.2.1.2 S.2.1 a (aW_at hc) hcl k hk (B.2.1.1 _ hq _) (fun _ z => z) hfin (by rw [hty k hk, hte]) (hn ad).1 (hn ad).2 (by simpa using hl) hd (fun H1 locs1 hP hD hS => ?_)
  have he : (aW X ad h).set a (ad a, .inr (ci, ((fs.map (aRv ad)).map (aCv X)).set k (aV X ad v))) = aW X ad (h.set a (aOb ci (fs.set k v))) := by
    rw [aW_set]
    simp only [aRc, aCc, List.map_set]
  rw [he] at hP hD
  exact kk p e s m args below meth c H1 locs1 ls A ad ad0 B ⟨S.1, hS, ⟨hP, hD⟩, S.2.2.2⟩
theorem a_putF {ci k a idx : Nat} {fs : List Value} {v : Value} {ty : FieldType} (hf : aFp M.1.cls idx ci k true ty) (hin : M.1.name = "<init>") (hd : decode M.2.1 pc = .ok (.putfield idx, 3)) (hc : h[a]? = some (aOb ci fs)) (hl : k < fs.length) (hn : ∀ ad, narrow ty (aV X ad v) = aV X ad v ∧ fits ty (aV X ad v) = true)
    (kk : aJ l X M F kc ks (pc + 3) L st (h.set a (aOb ci (fs.set k v)))) : aJ l X M F kc ks pc L (v :: .ref a :: st) h := by
  intro p e s m args below meth c H locs ls A ad ad0 B S
  obtain ⟨C, T, N, tyf, hcl, hws, hk, hq, hty, hnm, hfin, hte, hdecl⟩ := hf
  refine va_putF (D := X.1) (cl := vwCl) (ci := ci) (C := C) (T := T) (N := N) (v := aV X ad v) (ty := ty) (fs := (fs.map (aRv ad)).map (aCv X)) (Ts := u_ws C T N) B.1.1 B.1.2.1 (fun w hw => B.2.1.1 w (hws w hw) _) (fun _ hw => hw) tyf hty hnm B.1.2.2.2.2.1 B.2.1.2.1 S.2.2.1.1 S.2.2.1.2 S.2.1 a (aW_at hc) hcl k hk (B.2.1.1 _ hq _) (fun _ z => z) hfin (B.1.2.2.2.2.2.2.1.trans hin) hdecl (by rw [hty k hk, hte]) (hn ad).1 (hn ad).2 (by simpa using hl) hd (fun H1 locs1 hP hD hS => ?_)
  have he : (aW X ad h).set a (ad a, .inr (ci, ((fs.map (aRv ad)).map (aCv X)).set k (aV X ad v))) = aW X ad (h.set a (aOb ci (fs.set k v))) := by
    rw [aW_set]
    simp only [aRc, aCc, List.map_set]
  rw [he] at hP hD
  exact kk p e s m args below meth c H1 locs1 ls A ad ad0 B ⟨S.1, hS, ⟨hP, hD⟩, S.2.2.2⟩
theorem a_iald {a n : Nat} {f : Nat → Int32} {i : Int32} (hd : decode M.2.1 pc = .ok (.iaload, 1)) (hc : h[a]? = some (aIa n f)) (hin : vp_in i n) (k : aJ l X M F kc ks (pc + 1) L (.int (f i.toNatClampNeg) :: st) h) : aJ l X M F kc ks pc L (.int i :: .ref a :: st) h :=
  fun p e s m args below meth c H locs ls A ad ad0 B S => va_iald B.1.1 B.1.2.1 B.2.1.2.1 S.2.2.1.1 a 0 (aW_at hc) rfl hin hd (k p e s m args below meth c H locs ls A ad ad0 B S)
theorem a_lald {a n : Nat} {f : Nat → Int64} {i : Int32} (hd : decode M.2.1 pc = .ok (.laload, 1)) (hc : h[a]? = some (aLa n f)) (hin : vp_in i n) (k : aJ l X M F kc ks (pc + 1) L (.long (f i.toNatClampNeg) :: st) h) : aJ l X M F kc ks pc L (.int i :: .ref a :: st) h :=
  fun p e s m args below meth c H locs ls A ad ad0 B S => va_lald B.1.1 B.1.2.1 B.2.1.2.1 S.2.2.1.1 a 1 (aW_at hc) rfl hin hd (k p e s m args below meth c H locs ls A ad ad0 B S)
theorem a_dald {a n : Nat} {f : Nat → UInt64} {i : Int32} (hd : decode M.2.1 pc = .ok (.daload, 1)) (hc : h[a]? = some (aDa n f)) (hin : vp_in i n) (k : aJ l X M F kc ks (pc + 1) L (.double (f i.toNatClampNeg) :: st) h) : aJ l X M F kc ks pc L (.int i :: .ref a :: st) h :=
  fun p e s m args below meth c H locs ls A ad ad0 B S => va_dald B.1.1 B.1.2.1 B.2.1.2.1 S.2.2.1.1 a 2 (aW_at hc) rfl hin hd (k p e s m args below meth c H locs ls A ad ad0 B S)
theorem a_zald {a n : Nat} {f : Nat → Int32} {i : Int32} (hd : decode M.2.1 pc = .ok (.baload, 1)) (hc : h[a]? = some (aBa n f)) (hin : vp_in i n) (k : aJ l X M F kc ks (pc + 1) L (.int (f i.toNatClampNeg) :: st) h) : aJ l X M F kc ks pc L (.int i :: .ref a :: st) h :=
  fun p e s m args below meth c H locs ls A ad ad0 B S => va_zald B.1.1 B.1.2.1 B.2.1.2.1 S.2.2.1.1 a 3 (aW_at hc) rfl hin hd (k p e s m args below meth c H locs ls A ad ad0 B S)
theorem a_iast {a n : Nat} {f : Nat → Int32} {i x : Int32} (hd : decode M.2.1 pc = .ok (.iastore, 1)) (hc : h[a]? = some (aIa n f)) (hin : vp_in i n) (k : aJ l X M F kc ks (pc + 1) L st (h.set a (aIa n (upd f i.toNatClampNeg x)))) : aJ l X M F kc ks pc L (.int x :: .int i :: .ref a :: st) h := by
  intro p e s m args below meth c H locs ls A ad ad0 B S
  refine va_iast B.1.1 B.1.2.1 B.2.1.2.1 S.2.2.1.1 S.2.2.1.2 S.2.1 a 0 (aW_at hc) rfl hin hd (fun H1 locs1 hP hD hS => ?_)
  have he := aW_set (X := X) (ad := ad) (h := h) (j := a) (e := aIa n (upd f i.toNatClampNeg x))
  exact k p e s m args below meth c H1 locs1 ls A ad ad0 B ⟨S.1, hS, ⟨by rw [he]; exact hP, by rw [he]; exact hD⟩, S.2.2.2⟩
theorem a_last {a n : Nat} {f : Nat → Int64} {i : Int32} {x : Int64} (hd : decode M.2.1 pc = .ok (.lastore, 1)) (hc : h[a]? = some (aLa n f)) (hin : vp_in i n) (k : aJ l X M F kc ks (pc + 1) L st (h.set a (aLa n (vp_updL f i.toNatClampNeg x)))) : aJ l X M F kc ks pc L (.long x :: .int i :: .ref a :: st) h := by
  intro p e s m args below meth c H locs ls A ad ad0 B S
  refine va_last B.1.1 B.1.2.1 B.2.1.2.1 S.2.2.1.1 S.2.2.1.2 S.2.1 a 1 (aW_at hc) rfl hin hd (fun H1 locs1 hP hD hS => ?_)
  have he := aW_set (X := X) (ad := ad) (h := h) (j := a) (e := aLa n (vp_updL f i.toNatClampNeg x))
  exact k p e s m args below meth c H1 locs1 ls A ad ad0 B ⟨S.1, hS, ⟨by rw [he]; exact hP, by rw [he]; exact hD⟩, S.2.2.2⟩
theorem a_dast {a n : Nat} {f : Nat → UInt64} {i : Int32} {x : UInt64} (hd : decode M.2.1 pc = .ok (.dastore, 1)) (hc : h[a]? = some (aDa n f)) (hin : vp_in i n) (k : aJ l X M F kc ks (pc + 1) L st (h.set a (aDa n (vf_upd f i.toNatClampNeg x)))) : aJ l X M F kc ks pc L (.double x :: .int i :: .ref a :: st) h := by
  intro p e s m args below meth c H locs ls A ad ad0 B S
  refine va_dast B.1.1 B.1.2.1 B.2.1.2.1 S.2.2.1.1 S.2.2.1.2 S.2.1 a 2 (aW_at hc) rfl hin hd (fun H1 locs1 hP hD hS => ?_)
  have he := aW_set (X := X) (ad := ad) (h := h) (j := a) (e := aDa n (vf_upd f i.toNatClampNeg x))
  exact k p e s m args below meth c H1 locs1 ls A ad ad0 B ⟨S.1, hS, ⟨by rw [he]; exact hP, by rw [he]; exact hD⟩, S.2.2.2⟩
theorem a_zast {a n : Nat} {f : Nat → Int32} {i x : Int32} (hd : decode M.2.1 pc = .ok (.bastore, 1)) (hc : h[a]? = some (aBa n f)) (hin : vp_in i n) (k : aJ l X M F kc ks (pc + 1) L st (h.set a (aBa n (upd f i.toNatClampNeg (vp_nar .boolean x))))) : aJ l X M F kc ks pc L (.int x :: .int i :: .ref a :: st) h := by
  intro p e s m args below meth c H locs ls A ad ad0 B S
  refine va_zast B.1.1 B.1.2.1 B.2.1.2.1 S.2.2.1.1 S.2.2.1.2 S.2.1 a 3 (aW_at hc) rfl hin hd (fun H1 locs1 hP hD hS => ?_)
  have he := aW_set (X := X) (ad := ad) (h := h) (j := a) (e := aBa n (upd f i.toNatClampNeg (vp_nar .boolean x)))
  exact k p e s m args below meth c H1 locs1 ls A ad ad0 B ⟨S.1, hS, ⟨by rw [he]; exact hP, by rw [he]; exact hD⟩, S.2.2.2⟩
theorem a_alen {a n : Nat} {f : Nat → Int32} (v : Int32) (hd : decode M.2.1 pc = .ok (.arraylength, 1)) (hc : h[a]? = some (aIa n f)) (hv : Int32.ofNat n = v) (k : aJ l X M F kc ks (pc + 1) L (.int v :: st) h) : aJ l X M F kc ks pc L (.ref a :: st) h :=
  fun p e s m args below meth c H locs ls A ad ad0 B S => va_alen B.1.1 B.1.2.1 B.2.1.2.1 S.2.2.1.1 a 0 (aW_at hc) (ty := .int) rfl hv hd (k p e s m args below meth c H locs ls A ad ad0 B S)
/-- arrays outside -/
theorem a_xald {x : Nat} {i : Int32} (hx : x < 2) (hd : decode M.2.1 pc = .ok (.iaload, 1)) (hin : vp_in i (X.2.2.2.1 x)) (k : aJ l X M F kc ks (pc + 1) L (.int (X.2.2.2.2 x i.toNatClampNeg) :: st) h) : aJ l X M F kc ks pc L (.int i :: .retAddr x :: st) h :=
  fun p e s m args below meth c H locs ls A ad ad0 B S => va_ti B.1.1 B.1.2.1 (B.2.1.2.2.2.2.2.2.2.2 x hx) S.2.1 hin rfl hd (k p e s m args below meth c H locs ls A ad ad0 B S)
theorem a_xlen {x : Nat} (v : Int32) (hx : x < 2) (hd : decode M.2.1 pc = .ok (.arraylength, 1)) (hv : Int32.ofNat (X.2.2.2.1 x) = v) (k : aJ l X M F kc ks (pc + 1) L (.int v :: st) h) : aJ l X M F kc ks pc L (.retAddr x :: st) h :=
  fun p e s m args below meth c H locs ls A ad ad0 B S => va_tlen B.1.1 B.1.2.1 (B.2.1.2.2.2.2.2.2.2.2 x hx) S.2.1 hv hd (k p e s m args below meth c H locs ls A ad ad0 B S)
theorem a_xget {idx : Nat} (hq : aQ (.fieldLink M.1.cls idx "PreferenceTable" "SLOT_COUNTS" "[I")) (hd : decode M.2.1 pc = .ok (.getstatic idx, 3)) (k : aJ l X M F kc ks (pc + 3) L (.retAddr 0 :: st) h) : aJ l X M F kc ks pc L st h :=
  fun p e s m args below meth c H locs ls A ad ad0 B S => va_gets B.1.1 B.1.2.1 B.2.1.2.2.2.2.2.2.2.1 S.2.1 B.1.2.2.2.2.1 (B.2.1.1 _ hq _) (fun _ z => z) hd (k p e s m args below meth c H locs ls A ad ad0 B S)
/-- arrays of references -/
theorem a_aald {a j : Nat} {rl : List (Option Nat)} {i : Int32} {r : Option Nat} (hd : decode M.2.1 pc = .ok (.aaload, 1)) (hc : h[a]? = some (aRa rl)) (hin : vp_in i rl.length) (hj : i.toNatClampNeg = j) (hr : rl[j]? = some r) (k : aJ l X M F kc ks (pc + 1) L (aOr r :: st) h) : aJ l X M F kc ks pc L (.int i :: .ref a :: st) h := by
  intro p e s m args below meth c H locs ls A ad ad0 B S
  have he := aW_at (X := X) (ad := ad) hc
  have hin' : vp_in i (rl.map (fun r => r.map ad)).length := by rw [List.length_map]; exact hin
  refine va_aldq (C := RX4) B.1.1 B.1.2.1 B.2.1.2.1 S.2.2.1.1 a 4 he rfl hin' hd ?_
  have hg : va_rf ((rl.map (fun r => r.map ad)).getD i.toNatClampNeg none) = aV X ad (aOr r) := by
    rw [hj, List.getD_eq_getElem?_getD, List.getElem?_map, hr]
    cases r <;> rfl
  show W _ _ _ _ _ _ _ _ _ _ _ _ _ _ _ (F0 _ _ _ (va_rf ((rl.map (fun r => r.map ad)).getD i.toNatClampNeg none) :: _))
  rw [hg]
  exact k p e s m args below meth c H locs ls A ad ad0 B S
theorem a_aast {a j t : Nat} {rl : List (Option Nat)} {fs : List Value} {i : Int32} (hd : decode M.2.1 pc = .ok (.aastore, 1)) (hc : h[a]? = some (aRa rl)) (ht : h[t]? = some (aOb 4 fs)) (hin : vp_in i rl.length) (hj : i.toNatClampNeg = j) (k : aJ l X M F kc ks (pc + 1) L st (h.set a (aRa (rl.set j (some t))))) : aJ l X M F kc ks pc L (.ref t :: .int i :: .ref a :: st) h := by
  intro p e s m args below meth c H locs ls A ad ad0 B S
  have he := aW_at (X := X) (ad := ad) hc
  have hin' : vp_in i (rl.map (fun r => r.map ad)).length := by rw [List.length_map]; exact hin
  have hlt : j < rl.length := by rw [← hj]; exact Nat.not_le.mp fun q => hin (Or.inr q)
  refine va_astq (r := (RX4, TX4, 2)) B.1.1 B.1.2.1 B.2.1.2.1 S.2.2.1.1 S.2.2.1.2 S.2.1 a 4 t 4 he rfl (aW_at ht) rfl hin' hd (fun H1 locs1 hP hD hS => ?_)
  have hw : aW X ad (h.set a (aRa (rl.set j (some t)))) = (aW X ad h).set a (ad a, .inl (X.2.1 4, (rl.map (fun r => r.map ad)).length, .inr (.inr (.inr (.inr (va_up (fun k => (rl.map (fun r => r.map ad)).getD k none) i.toNatClampNeg (some (ad t)))))))) := by
    rw [aW_set]
    simp only [aRc, aCc, List.length_map, List.length_set]
    congr 2
    refine congrArg Sum.inl (congrArg (fun z => (X.2.1 4, rl.length, Sum.inr (Sum.inr (Sum.inr (Sum.inr z))))) (funext fun q => ?_))
    rw [hj, va_up, List.getD_eq_getElem?_getD, List.getElem?_map, List.getElem?_set]
    by_cases hq : j = q
    · subst hq
      simp [hlt]
    · simp [hq, Ne.symm hq, List.getD_eq_getElem?_getD]
  exact k p e s m args below meth c H1 locs1 ls A ad ad0 B ⟨S.1, hS, ⟨by rw [hw]; exact hP, by rw [hw]; exact hD⟩, S.2.2.2⟩
/-- new cells -/
theorem a_new {ci idx : Nat} {C : String} {T : u_T} {N : Nat} {tyf : Nat → FieldType} {fs : List Value} (hcl : vwCl[ci]? = some (C, T, N)) (hws : ∀ w ∈ u_ws C T N, aQ w) (hty : ∀ k, k < N → parseFieldDescriptor (T k).2.2.1 = some (tyf k)) (hq1 : aQ (.classLink M.1.cls idx C)) (hq2 : aQ (.instantiable C N)) (hq3 : aQ (.initialized C))
    (hd : decode M.2.1 pc = .ok (.new idx, 3)) (hfs : ∀ j, j < N → defaultValue (tyf j) = vp_V fs j) (hid : ∀ f, (fs.map (aRv f)).map (aCv X) = fs) (hok : (L.all (aVo (aBe h.length)) && st.all (aVo (aBe h.length)) && h.all (aCo (aBe h.length)) && F.1.all (aBe h.length)) = true) (hc : kc + 1 ≤ aMc M) (hs : ks + N ≤ aMs M)
    (k : aJ l X M F (kc + 1) (ks + N) (pc + 3) L (.ref h.length :: st) (h ++ [aOb ci fs])) : aJ l X M F kc ks pc L st h := by
  intro p e s m args below meth c H locs ls A ad ad0 B S
  refine va_new (ci := ci) (fs := fs) (C := C) (T := T) (N := N) (Ts := u_ws C T N) B.1.1 B.1.2.1 (fun w hw => B.2.1.1 w (hws w hw) _) (fun _ hw => hw) tyf hty B.1.2.2.2.2.1 (B.2.1.1 _ hq1 _) (B.2.1.1 _ hq2 _) (B.2.1.1 _ hq3 _) B.2.1.2.1 S.2.2.1.1 S.2.2.1.2 S.2.1 B.2.2 hcl hfs hc hs hd (fun q H1 hP hD hS => ?_)
  obtain ⟨u1, u2, u3, u4⟩ := S.up (q := q) (st := st) hok
  have hw : aW X (aUp ad h.length q) (h ++ [aOb ci fs]) = aW X ad h ++ [(q, .inr (ci, fs))] := by
    rw [aW_app, u2]
    simp only [aRc, aCc, hid]
    unfold aUp; rw [if_pos rfl]
  have := k p e s m args below meth c H1 locs ls A (aUp ad h.length q) ad0 B ⟨u1, hS, ⟨by rw [hw]; exact hP, by rw [hw]; exact hD⟩, u3⟩
  have hv : (Value.ref h.length :: st).map (aV X (aUp ad h.length q)) = .ref q :: st.map (aV X ad) := by
    rw [List.map_cons, u4]
    show Value.ref (aUp ad h.length q h.length) :: _ = _
    unfold aUp; rw [if_pos rfl]
  rw [hv] at this
  exact this
theorem a_newaX {atype : ArrayType} {ty : FieldType} {n : Int32} {N : Nat} {a0 : vp_A} {ec : aCell} {t0 : Nat} (hq : aQ (.arrayClass (newarray.typeOf atype))) (hty : newarray.typeOf atype = ty) (hno : ∀ C, ty ≠ .object C) (ht : ∀ X : aX, (aTy X)[t0]? = some (X.2.1 t0, ty)) (hec : ∀ (X : aX) (f : Nat → Nat), aCc X (aRc f ec) = .inl (X.2.1 t0, a0))
    (ha : ∀ cA : ClassId, vp_cell cA a0 = arrV cA N (fun _ => defaultValue ty)) (hn : ¬ n < 0) (hN : n.toNatClampNeg = N) (hb : N * componentBytes ty ≤ 536870912)
    (hd : decode M.2.1 pc = .ok (.newarray atype, 2)) (hok : (L.all (aVo (aBe h.length)) && st.all (aVo (aBe h.length)) && h.all (aCo (aBe h.length)) && F.1.all (aBe h.length)) = true) (hc : kc + 1 ≤ aMc M) (hs : ks + N ≤ aMs M)
    (k : aJ l X M F (kc + 1) (ks + N) (pc + 2) L (.ref h.length :: st) (h ++ [ec])) : aJ l X M F kc ks pc L (.int n :: st) h := by
  intro p e s m args below meth c H locs ls A ad ad0 B S
  refine va_newa (atype := atype) (ty := ty) (a0 := a0) B.1.1 B.1.2.1 (B.2.1.1 _ hq _) hty B.2.1.2.1 S.2.2.1.1 S.2.2.1.2 S.2.1 B.2.2 ha hn hN hb hc hs hd (fun q cA H1 hK hP hD hS => ?_)
  have h1 := (hK.2 5 (cA, ty) rfl).2
  have h2 := (B.2.1.2.1.2 t0 _ (ht X)).2
  have hcA : cA = X.2.1 t0 := by
    cases ty <;> first | exact absurd rfl (hno _) | exact Option.some.inj (h1.symm.trans h2)
  obtain ⟨u1, u2, u3, u4⟩ := S.up (q := q) (st := st) hok
  have hw : aW X (aUp ad h.length q) (h ++ [ec]) = aW X ad h ++ [(q, .inl (cA, a0))] := by
    rw [aW_app, u2, hec, hcA]
    unfold aUp; rw [if_pos rfl]
  have := k p e s m args below meth c H1 locs ls A (aUp ad h.length q) ad0 B ⟨u1, hS, ⟨by rw [hw]; exact hP, by rw [hw]; exact hD⟩, u3⟩
  have hv : (Value.ref h.length :: st).map (aV X (aUp ad h.length q)) = .ref q :: st.map (aV X ad) := by
    rw [List.map_cons, u4]
    show Value.ref (aUp ad h.length q h.length) :: _ = _
    unfold aUp; rw [if_pos rfl]
  rw [hv] at this
  exact this
theorem a_newi {n : Int32} (N : Nat) (hq : aQ (.arrayClass .int)) (hn : ¬ n < 0) (hN : n.toNatClampNeg = N) (hb : N * 4 ≤ 536870912)
    (hd : decode M.2.1 pc = .ok (.newarray .int, 2)) (hok : (L.all (aVo (aBe h.length)) && st.all (aVo (aBe h.length)) && h.all (aCo (aBe h.length)) && F.1.all (aBe h.length)) = true) (hc : kc + 1 ≤ aMc M) (hs : ks + N ≤ aMs M)
    (k : aJ l X M F (kc + 1) (ks + N) (pc + 2) L (.ref h.length :: st) (h ++ [aIa N (fun _ => 0)])) : aJ l X M F kc ks pc L (.int n :: st) h :=
  a_newaX (atype := .int) (ty := .int) (t0 := 0) (a0 := (N, .inl (fun _ => 0))) hq rfl (fun _ z => by cases z) (fun _ => rfl) (fun _ _ => rfl) (fun _ => rfl) hn hN hb hd hok hc hs k
theorem a_newl {n : Int32} (N : Nat) (hq : aQ (.arrayClass .long)) (hn : ¬ n < 0) (hN : n.toNatClampNeg = N) (hb : N * 8 ≤ 536870912)
    (hd : decode M.2.1 pc = .ok (.newarray .long, 2)) (hok : (L.all (aVo (aBe h.length)) && st.all (aVo (aBe h.length)) && h.all (aCo (aBe h.length)) && F.1.all (aBe h.length)) = true) (hc : kc + 1 ≤ aMc M) (hs : ks + N ≤ aMs M)
    (k : aJ l X M F (kc + 1) (ks + N) (pc + 2) L (.ref h.length :: st) (h ++ [aLa N (fun _ => 0)])) : aJ l X M F kc ks pc L (.int n :: st) h :=
  a_newaX (atype := .long) (ty := .long) (t0 := 1) (a0 := (N, .inr (.inl (fun _ => 0)))) hq rfl (fun _ z => by cases z) (fun _ => rfl) (fun _ _ => rfl) (fun _ => rfl) hn hN hb hd hok hc hs k
theorem a_newd {n : Int32} (N : Nat) (hq : aQ (.arrayClass .double)) (hn : ¬ n < 0) (hN : n.toNatClampNeg = N) (hb : N * 8 ≤ 536870912)
    (hd : decode M.2.1 pc = .ok (.newarray .double, 2)) (hok : (L.all (aVo (aBe h.length)) && st.all (aVo (aBe h.length)) && h.all (aCo (aBe h.length)) && F.1.all (aBe h.length)) = true) (hc : kc + 1 ≤ aMc M) (hs : ks + N ≤ aMs M)
    (k : aJ l X M F (kc + 1) (ks + N) (pc + 2) L (.ref h.length :: st) (h ++ [aDa N (fun _ => 0)])) : aJ l X M F kc ks pc L (.int n :: st) h :=
  a_newaX (atype := .double) (ty := .double) (t0 := 2) (a0 := (N, .inr (.inr (.inr (.inl (fun _ => 0)))))) hq rfl (fun _ z => by cases z) (fun _ => rfl) (fun _ _ => rfl) (fun _ => rfl) hn hN hb hd hok hc hs k
theorem a_newz {n : Int32} (N : Nat) (hq : aQ (.arrayClass .boolean)) (hn : ¬ n < 0) (hN : n.toNatClampNeg = N) (hb : N * 1 ≤ 536870912)
    (hd : decode M.2.1 pc = .ok (.newarray .boolean, 2)) (hok : (L.all (aVo (aBe h.length)) && st.all (aVo (aBe h.length)) && h.all (aCo (aBe h.length)) && F.1.all (aBe h.length)) = true) (hc : kc + 1 ≤ aMc M) (hs : ks + N ≤ aMs M)
    (k : aJ l X M F (kc + 1) (ks + N) (pc + 2) L (.ref h.length :: st) (h ++ [aBa N (fun _ => 0)])) : aJ l X M F kc ks pc L (.int n :: st) h :=
  a_newaX (atype := .boolean) (ty := .boolean) (t0 := 3) (a0 := (N, .inl (fun _ => 0))) hq rfl (fun _ z => by cases z) (fun _ => rfl) (fun _ _ => rfl) (fun _ => rfl) hn hN hb hd hok hc hs k
theorem a_newr {n : Int32} (N : Nat) {idx : Nat} (hq : aQ (.classLink M.1.cls idx RX4)) (hn : ¬ n < 0) (hN : n.toNatClampNeg = N) (hb : N * 4 ≤ 536870912)
    (hd : decode M.2.1 pc = .ok (.anewarray idx, 3)) (hok : (L.all (aVo (aBe h.length)) && st.all (aVo (aBe h.length)) && h.all (aCo (aBe h.length)) && F.1.all (aBe h.length)) = true) (hc : kc + 1 ≤ aMc M) (hs : ks + N ≤ aMs M)
    (k : aJ l X M F (kc + 1) (ks + N) (pc + 3) L (.ref h.length :: st) (h ++ [aRa (List.replicate N none)])) : aJ l X M F kc ks pc L (.int n :: st) h := by
  intro p e s m args below meth c H locs ls A ad ad0 B S
  refine va_newq (C := RX4) B.1.1 B.1.2.1 B.1.2.2.2.2.1 (B.2.1.1 _ hq _) B.2.1.2.2.1 B.2.1.2.1 S.2.2.1.1 S.2.2.1.2 S.2.1 B.2.2 hn hN hb hc hs hd (fun q cA H1 hK hP hD hS => ?_)
  have h1 := (hK.2 5 (cA, .object RX4) rfl).2
  have h2 := (B.2.1.2.1.2 4 (X.2.1 4, .object RX4) rfl).2
  have hcA : cA = X.2.1 4 := by
    obtain ⟨_, _, _, _, _, g1⟩ := h1
    obtain ⟨_, _, _, _, _, g2⟩ := h2
    exact Option.some.inj (g1.symm.trans g2)
  obtain ⟨u1, u2, u3, u4⟩ := S.up (q := q) (st := st) hok
  have hw : aW X (aUp ad h.length q) (h ++ [aRa (List.replicate N none)]) = aW X ad h ++ [(q, .inl (cA, N, .inr (.inr (.inr (.inr (fun _ => none))))))] := by
    rw [aW_app, u2, hcA]
    have hfn : ∀ z : Option Nat, z = none → (fun k => (List.replicate N z).getD k none) = (fun _ => (none : Option Nat)) := fun z hz => funext fun y => by
      rw [List.getD_eq_getElem?_getD, List.getElem?_replicate]
      by_cases hy : y < N <;> simp [hy, hz]
    simp only [aRc, aCc, List.length_map, List.length_replicate, List.map_replicate]
    rw [hfn (Option.map (aUp ad h.length q) none) rfl]
    unfold aUp; rw [if_pos rfl]
  have := k p e s m args below meth c H1 locs ls A (aUp ad h.length q) ad0 B ⟨u1, hS, ⟨by rw [hw]; exact hP, by rw [hw]; exact hD⟩, u3⟩
  have hv : (Value.ref h.length :: st).map (aV X (aUp ad h.length q)) = .ref q :: st.map (aV X ad) := by
    rw [List.map_cons, u4]
    show Value.ref (aUp ad h.length q h.length) :: _ = _
    unfold aUp; rw [if_pos rfl]
  rw [hv] at this
  exact this
/-- Object.<init> -/
theorem a_objInit {a idx : Nat} (hq1 : aQ (.methodLink M.1.cls idx objectInit)) (hq2 : aQ (.instanceMethod objectInit)) (hq3 : aQ (.code objectInit ⟨#[0xb1]⟩ 1 none)) (hd : decode M.2.1 pc = .ok (.invokespecial idx, 3)) (hf : 1 ≤ M.2.2.2.2.2.1) (hl : (st.map fun v => v.category).sum + 12 ≤ M.2.2.2.2.2.2.1)
    (k : aJ l X M F kc ks (pc + 3) L st h) : aJ l X M F kc ks pc L (.ref a :: st) h := by
  intro p e s m args below meth c H locs ls A ad ad0 B S
  refine W.objInit B.1.1 B.1.2.1 B.1.2.2.2.2.1 (B.2.1.1 _ hq1 _) (B.2.1.1 _ hq2 _) (B.2.1.1 _ hq3 _) rfl (by rw [B.1.2.2.2.1]; exact S.2.2.2.1) (rest := st.map (aV X ad)) rfl hd hf ?_ (k p e s m args below meth c H locs ls A ad ad0 B S)
  show 2 * 0 + ((st.map (aV X ad)).map fun v => v.category).sum + 12 ≤ M.2.2.2.2.2.2.1
  rw [aVs_cat]
  omega
/-- Math.max, Math.min of ints -/
theorem a_max {x y : Int32} {idx : Nat} (hq1 : aQ (.methodLink M.1.cls idx Lib.Math.max.name)) (hq2 : aQ (.static Lib.Math.max.name)) (hq3 : aQ (.initialized "java/lang/Math")) (hq4 : aQ (.code Lib.Math.max.name Lib.Math.max.code 2 (some .int))) (hd : decode M.2.1 pc = .ok (.invokestatic idx, 3)) (hf : 1 ≤ M.2.2.2.2.2.1) (hl : (st.map fun v => v.category).sum + 13 ≤ M.2.2.2.2.2.2.1) (hc : kc ≤ aMc M) (hs : ks ≤ aMs M)
    (k : aJ l X M F kc ks (pc + 3) L (.int (if x < y then y else x) :: st) h) : aJ l X M F kc ks pc L (.int y :: .int x :: st) h :=
  fun p e s m args below meth c H locs ls A ad ad0 B S => va_mmax B.1.1 B.1.2.1 (B.1.2.2.2.1.trans S.2.2.2.1.symm) B.1.2.2.2.2.1 (B.2.1.1 _ hq1 _) (B.2.1.1 _ hq2 _) (B.2.1.1 _ hq3 _) (B.2.1.1 _ hq4 _) hf (by rw [aVs_cat]; exact hl) hc hs hd (k p e s m args below meth c H locs ls A ad ad0 B S)
theorem a_min {x y : Int32} {idx : Nat} (hq1 : aQ (.methodLink M.1.cls idx Lib.Math.min.name)) (hq2 : aQ (.static Lib.Math.min.name)) (hq3 : aQ (.initialized "java/lang/Math")) (hq4 : aQ (.code Lib.Math.min.name Lib.Math.min.code 2 (some .int))) (hd : decode M.2.1 pc = .ok (.invokestatic idx, 3)) (hf : 1 ≤ M.2.2.2.2.2.1) (hl : (st.map fun v => v.category).sum + 13 ≤ M.2.2.2.2.2.2.1) (hc : kc ≤ aMc M) (hs : ks ≤ aMs M)
    (k : aJ l X M F kc ks (pc + 3) L (.int (if y < x then y else x) :: st) h) : aJ l X M F kc ks pc L (.int y :: .int x :: st) h :=
  fun p e s m args below meth c H locs ls A ad ad0 B S => va_mmin B.1.1 B.1.2.1 (B.1.2.2.2.1.trans S.2.2.2.1.symm) B.1.2.2.2.2.1 (B.2.1.1 _ hq1 _) (B.2.1.1 _ hq2 _) (B.2.1.1 _ hq3 _) (B.2.1.1 _ hq4 _) hf (by rw [aVs_cat]; exact hl) hc hs hd (k p e s m args below meth c H locs ls A ad ad0 B S)
end AMR
section ARE
variable {l : Launch} {X : aX} {M : aM} {rs : List Nat} {Q : aQt} {kc ks pc : Nat} {L st : List Value} {h : List aCell}
/-- returns -/
theorem a_iret {v : Int32} (hr : M.2.2.2.1 = some .int) (hd : decode M.2.1 pc = .ok (.ireturn, 1)) (hc : kc ≤ aMc M) (hs : ks ≤ aMs M) (hq : Q (.inl (some (.int v))) h) : aJ l X M (aEd X M rs Q) kc ks pc L [.int v] h :=
  fun p e s m args below meth c H locs ls A ad ad0 B S => vx_ret (W.widen hc hs (W.iret B.1.1 B.1.2.1 (B.1.2.2.1.trans hr) (fun t ht hW => ⟨⟨some (.int v), ad, h, rfl, hq, S.1, by rw [ht]; exact S.2.2.1⟩, S.2.1.F ht⟩) S.2.1.2.2 hd B.1.2.2.2.2.2.1))
theorem a_zret {v : Int32} (hr : M.2.2.2.1 = some .boolean) (hn : narrow .boolean (.int v) = .int v) (hd : decode M.2.1 pc = .ok (.ireturn, 1)) (hc : kc ≤ aMc M) (hs : ks ≤ aMs M) (hq : Q (.inl (some (.int v))) h) : aJ l X M (aEd X M rs Q) kc ks pc L [.int v] h :=
  fun p e s m args below meth c H locs ls A ad ad0 B S => vx_ret (W.widen hc hs (W.zret B.1.1 B.1.2.1 (B.1.2.2.1.trans hr) hn (fun t ht hW => ⟨⟨some (.int v), ad, h, rfl, hq, S.1, by rw [ht]; exact S.2.2.1⟩, S.2.1.F ht⟩) S.2.1.2.2 hd B.1.2.2.2.2.2.1))
theorem a_lret {v : Int64} (hr : M.2.2.2.1 = some .long) (hd : decode M.2.1 pc = .ok (.lreturn, 1)) (hc : kc ≤ aMc M) (hs : ks ≤ aMs M) (hq : Q (.inl (some (.long v))) h) : aJ l X M (aEd X M rs Q) kc ks pc L [.long v] h :=
  fun p e s m args below meth c H locs ls A ad ad0 B S => vx_ret (W.widen hc hs (W.lret B.1.1 B.1.2.1 (B.1.2.2.1.trans hr) (fun t ht hW => ⟨⟨some (.long v), ad, h, rfl, hq, S.1, by rw [ht]; exact S.2.2.1⟩, S.2.1.F ht⟩) S.2.1.2.2 hd B.1.2.2.2.2.2.1))
theorem a_dret {v : UInt64} (hr : M.2.2.2.1 = some .double) (hd : decode M.2.1 pc = .ok (.dreturn, 1)) (hc : kc ≤ aMc M) (hs : ks ≤ aMs M) (hq : Q (.inl (some (.double v))) h) : aJ l X M (aEd X M rs Q) kc ks pc L [.double v] h :=
  fun p e s m args below meth c H locs ls A ad ad0 B S => vx_ret (W.widen hc hs (W.dret B.1.1 B.1.2.1 (B.1.2.2.1.trans hr) (fun t ht hW => ⟨⟨some (.double v), ad, h, rfl, hq, S.1, by rw [ht]; exact S.2.2.1⟩, S.2.1.F ht⟩) S.2.1.2.2 hd B.1.2.2.2.2.2.1))
theorem a_vret (hr : M.2.2.2.1 = none) (hd : decode M.2.1 pc = .ok (.return_, 1)) (hc : kc ≤ aMc M) (hs : ks ≤ aMs M) (hq : Q (.inl none) h) : aJ l X M (aEd X M rs Q) kc ks pc L [] h :=
  fun p e s m args below meth c H locs ls A ad ad0 B S => vx_ret (W.widen hc hs (W.vret B.1.1 B.1.2.1 (B.1.2.2.1.trans hr) (fun t ht hW => ⟨⟨none, ad, h, rfl, hq, S.1, by rw [ht]; exact S.2.2.1⟩, S.2.1.F ht⟩) S.2.1.2.2 hd B.1.2.2.2.2.2.1))
end ARE
end
section
/-! ===== calls: the callee's picture is picked out of the caller's by places ===== -/
def aRi (d : Nat) : List Nat → Nat → Nat
  | [], t => d + t
  | a :: _, 0 => a
  | _ :: l, t + 1 => aRi d l t
def aIx : List Nat → Nat → Option Nat
  | [], _ => none
  | a :: l, j => if j = a then some 0 else (aIx l j).map (fun t => t + 1)
def aPush : List Value → List Value → List Value
  | [], r => r
  | v :: l, r => aPush l (v :: r)
theorem aPush_eq : ∀ (l r : List Value), aPush l r = l.reverse ++ r
  | [], r => rfl
  | v :: l, r => by rw [aPush, aPush_eq l (v :: r), List.reverse_cons, List.append_assoc]; rfl
theorem aRi_lt (d : Nat) : ∀ (is : List Nat) (t : Nat), t < is.length → is[t]? = some (aRi d is t)
  | [], t, h => absurd h (Nat.not_lt_zero _)
  | a :: l, 0, _ => rfl
  | a :: l, t + 1, h => by rw [List.getElem?_cons_succ]; exact aRi_lt d l t (Nat.lt_of_succ_lt_succ h)
theorem aRi_ge (d : Nat) : ∀ (is : List Nat) (t : Nat), is.length ≤ t → aRi d is t = d + (t - is.length)
  | [], t, _ => rfl
  | a :: l, 0, h => absurd h (Nat.not_succ_le_zero _)
  | a :: l, t + 1, h => by
    show aRi d l t = _
    rw [aRi_ge d l t (Nat.le_of_succ_le_succ h), List.length_cons, Nat.succ_sub_succ]
theorem aIx_some : ∀ (is : List Nat) (j t : Nat), aIx is j = some t → is[t]? = some j
  | [], j, t, h => by cases h
  | a :: l, j, t, h => by
    unfold aIx at h
    by_cases hj : j = a
    · rw [if_pos hj] at h
      cases h
      rw [hj]; rfl
    · rw [if_neg hj] at h
      cases hx : aIx l j with
      | none => rw [hx] at h; cases h
      | some u =>
        rw [hx] at h
        cases h
        rw [List.getElem?_cons_succ]
        exact aIx_some l j u hx
theorem aIx_mem : ∀ (is : List Nat) (j : Nat), j ∈ is → ∃ t, aIx is j = some t
  | [], j, h => by cases h
  | a :: l, j, h => by
    unfold aIx
    by_cases hj : j = a
    · exact ⟨0, if_pos hj⟩
    · rw [if_neg hj]
      obtain ⟨t, ht⟩ := aIx_mem l j ((List.mem_cons.mp h).resolve_left hj)
      exact ⟨t + 1, by rw [ht]; rfl⟩
theorem aIx_nd {is : List Nat} (hn : va_nd is = true) {j t : Nat} (h : is[t]? = some j) : aIx is j = some t := by
  obtain ⟨u, hu⟩ := aIx_mem is j (List.mem_of_getElem? h)
  rw [hu, va_nd_inj is hn u t j (aIx_some is j u hu) h]
/-- places that keep their address over the call -/
def aSb (is rs : List Nat) (n : Nat) : Nat → Bool := fun r => match aIx is r with
  | some t => rs.contains t
  | none => decide (r < n)
def aRs (is : List Nat) (p : Nat → Bool) : Nat → List aCell → Bool
  | _, [] => true
  | j, e :: l => (match aIx is j with | some _ => true | none => aCo p e) && aRs is p (j + 1) l
theorem aRs_get (is : List Nat) (p : Nat → Bool) : ∀ (l : List aCell) (i j : Nat) (e : aCell), aRs is p i l = true → l[j]? = some e → aIx is (i + j) = none → aCo p e = true
  | [], i, j, e, _, h, _ => by simp at h
  | x :: l, i, 0, e, hr, h, hx => by
    simp only [aRs, Bool.and_eq_true] at hr
    cases h
    rw [Nat.add_zero] at hx
    rw [hx] at hr
    exact hr.1
  | x :: l, i, j + 1, e, hr, h, hx => by
    simp only [aRs, Bool.and_eq_true] at hr
    exact aRs_get is p l (i + 1) j e hr.2 h (by rw [show i + 1 + j = i + (j + 1) by omega]; exact hx)
def aMg (h : List aCell) (is : List Nat) (h' : List aCell) : List aCell :=
  aMx (fun j e => match aIx is j with | some t => (match h'[t]? with | some e' => aRc (aRi h.length is) e' | none => e) | none => e) 0 h ++ (h'.drop is.length).map (aRc (aRi h.length is))
def aA2 (is : List Nat) (n : Nat) (ad ad' : Nat → Nat) : Nat → Nat := fun j => match aIx is j with
  | some t => ad' t
  | none => if j < n then ad j else ad' (j - n + is.length)
/-- the callee's picture hc is what lies in h at the places is -/
def aSel (h : List aCell) (is : List Nat) (hc : List aCell) : Prop := is.map (fun i => h[i]?) = hc.map (fun e => some (aRc (aRi h.length is) e))
theorem aSel.len {h : List aCell} {is : List Nat} {hc : List aCell} (hs : aSel h is hc) : is.length = hc.length := by
  have := congrArg List.length hs
  simpa using this
theorem aSel.at {h : List aCell} {is : List Nat} {hc : List aCell} (hs : aSel h is hc) {t : Nat} {e : aCell} (ht : hc[t]? = some e) : is[t]? = some (aRi h.length is t) ∧ h[aRi h.length is t]? = some (aRc (aRi h.length is) e) := by
  have hl : t < is.length := by rw [hs.len]; exact (List.getElem?_eq_some_iff.mp ht).1
  have h1 := aRi_lt h.length is t hl
  refine ⟨h1, ?_⟩
  have h2 : (is.map (fun i => h[i]?))[t]? = some (some (aRc (aRi h.length is) e)) := by
    rw [hs, List.getElem?_map, ht]; rfl
  rw [List.getElem?_map, h1] at h2
  exact Option.some.inj h2
theorem aSel.lt {h : List aCell} {is : List Nat} {hc : List aCell} (hs : aSel h is hc) : ∀ i ∈ is, i < h.length := by
  intro i hi
  obtain ⟨t, ht⟩ := List.getElem?_of_mem hi
  have hl : t < hc.length := by rw [← hs.len]; exact (List.getElem?_eq_some_iff.mp ht).1
  obtain ⟨h1, h2⟩ := hs.at (List.getElem?_eq_getElem hl)
  cases Option.some.inj (ht.symm.trans h1)
  exact (List.getElem?_eq_some_iff.mp h2).1
theorem aSel.w {X : aX} {ad : Nat → Nat} {h : List aCell} {is : List Nat} {hc : List aCell} (hs : aSel h is hc) {k : Nat} {q : Nat × va_E} (hk : (aW X (fun t => ad (aRi h.length is t)) hc)[k]? = some q) : is[k]? = some (aRi h.length is k) ∧ (aW X ad h)[aRi h.length is k]? = some q := by
  obtain ⟨e, he, rfl⟩ := aW_of hk
  obtain ⟨h1, h2⟩ := hs.at he
  refine ⟨h1, ?_⟩
  rw [aW_at h2, aRc_comp]
theorem aA2_ri {is : List Nat} {n : Nat} {ad ad' : Nat → Nat} (hn : va_nd is = true) (hlt : ∀ i ∈ is, i < n) (t : Nat) : aA2 is n ad ad' (aRi n is t) = ad' t := by
  by_cases hl : t < is.length
  · have h1 := aRi_lt n is t hl
    unfold aA2
    rw [aIx_nd hn h1]
  · have h1 := aRi_ge n is t (by omega)
    unfold aA2
    rw [h1]
    cases hx : aIx is (n + (t - is.length)) with
    | some u =>
      have := hlt _ (List.mem_of_getElem? (aIx_some is _ u hx))
      omega
    | none =>
      dsimp only
      rw [if_neg (by omega)]
      congr 1
      omega
theorem aA2_sb {is rs : List Nat} {n : Nat} {ad ad' : Nat → Nat} (hr : ∀ t ∈ rs, ad' t = ad (aRi n is t)) {r : Nat} (h : aSb is rs n r = true) : aA2 is n ad ad' r = ad r := by
  unfold aSb at h
  unfold aA2
  cases hx : aIx is r with
  | some t =>
    rw [hx] at h
    dsimp only at h ⊢
    rw [hr t (List.contains_iff_mem.mp h)]
    have h1 := aIx_some is r t hx
    have h2 := aRi_lt n is t (List.getElem?_eq_some_iff.mp h1).1
    rw [Option.some.inj (h2.symm.trans h1)]
  | none =>
    rw [hx] at h
    dsimp only at h ⊢
    rw [if_pos (of_decide_eq_true h)]
theorem aMg_get {h : List aCell} {is : List Nat} {h' : List aCell} (hle : is.length ≤ h'.length) (j : Nat) : (aMg h is h')[j]? = if j < h.length then (match aIx is j with | some t => (h'[t]?).map (aRc (aRi h.length is)) | none => h[j]?) else (h'[is.length + (j - h.length)]?).map (aRc (aRi h.length is)) := by
  unfold aMg
  by_cases hl : j < h.length
  · rw [if_pos hl, List.getElem?_append_left (by rw [aMx_len]; exact hl), aMx_get, Nat.zero_add]
    rw [List.getElem?_eq_getElem hl]
    cases hx : aIx is j with
    | none => simp
    | some t =>
      have h1 := (List.getElem?_eq_some_iff.mp (aIx_some is j t hx)).1
      have h2 : t < h'.length := by omega
      simp [List.getElem?_eq_getElem h2]
  · rw [if_neg hl, List.getElem?_append_right (by rw [aMx_len]; omega), aMx_len, List.getElem?_map, List.getElem?_drop]
theorem aMg_w {X : aX} {ad ad' : Nat → Nat} {h : List aCell} {is rs : List Nat} {h' hc : List aCell} (hs : aSel h is hc) (hn : va_nd is = true) (hle : is.length ≤ h'.length) (hr : ∀ t ∈ rs, ad' t = ad (aRi h.length is t)) (hk : aRs is (aSb is rs h.length) 0 h = true) {j : Nat} {q : Nat × va_E} (hq : (aW X (aA2 is h.length ad ad') (aMg h is h'))[j]? = some q) :
    (aIx is j = none ∧ (aW X ad h)[j]? = some q) ∨ (∃ t, (aW X ad' h')[t]? = some q ∧ j = aRi h.length is t) := by
  obtain ⟨e, he, rfl⟩ := aW_of hq
  rw [aMg_get hle] at he
  have hri : ∀ x, aA2 is h.length ad ad' (aRi h.length is x) = ad' x := aA2_ri hn hs.lt
  by_cases hl : j < h.length
  · rw [if_pos hl] at he
    cases hx : aIx is j with
    | none =>
      rw [hx] at he
      refine Or.inl ⟨rfl, ?_⟩
      rw [aW_at he]
      have h1 : aA2 is h.length ad ad' j = ad j := by unfold aA2; rw [hx]; exact if_pos hl
      rw [h1, aRc_congr (fun i hi => aA2_sb hr hi) (aRs_get is _ h 0 j e hk he (by rw [Nat.zero_add]; exact hx))]
    | some t =>
      rw [hx] at he
      dsimp only at he
      cases ht : h'[t]? with
      | none => rw [ht] at he; cases he
      | some e' =>
        rw [ht] at he
        cases he
        have h1 := aIx_some is j t hx
        have h2 := aRi_lt h.length is t (List.getElem?_eq_some_iff.mp h1).1
        have h3 : j = aRi h.length is t := Option.some.inj (h1.symm.trans h2)
        refine Or.inr ⟨t, ?_, h3⟩
        rw [aW_at ht, aRc_comp, h3, hri, show (fun i => aA2 is h.length ad ad' (aRi h.length is i)) = ad' from funext hri]
  · rw [if_neg hl] at he
    cases ht : h'[is.length + (j - h.length)]? with
    | none => rw [ht] at he; cases he
    | some e' =>
      rw [ht] at he
      cases he
      have h3 : j = aRi h.length is (is.length + (j - h.length)) := by
        rw [aRi_ge _ _ _ (by omega)]; omega
      refine Or.inr ⟨is.length + (j - h.length), ?_, h3⟩
      rw [aW_at ht, aRc_comp, show (fun i => aA2 is h.length ad ad' (aRi h.length is i)) = ad' from funext hri]
      rw [show aA2 is h.length ad ad' j = ad' (is.length + (j - h.length)) from (congrArg _ h3).trans (hri _)]
theorem aMg_hp {X : aX} {ad ad' : Nat → Nat} {h : List aCell} {is rs : List Nat} {h' hc : List aCell} {A : Nat → Prop} {H H1 : Heap} (hs : aSel h is hc) (hn : va_nd is = true) (hle : is.length ≤ h'.length) (hr : ∀ t ∈ rs, ad' t = ad (aRi h.length is t)) (hk : aRs is (aSb is rs h.length) 0 h = true)
    (hp : aHp X ad h A H) (hF : ∀ q, va_A (aW X (fun t => ad (aRi h.length is t)) hc) H.size q → A q) (hp1 : aHp X ad' h' (va_A (aW X (fun t => ad (aRi h.length is t)) hc) H.size) H1)
    (hk1 : ∀ q : Nat, q < H.size → ¬ va_A (aW X (fun t => ad (aRi h.length is t)) hc) H.size q → H1[q]? = H[q]?) : aHp X (aA2 is h.length ad ad') (aMg h is h') A H1 := by
  have apart : ∀ (j : Nat) (q : Nat × va_E), aIx is j = none → (aW X ad h)[j]? = some q → ¬ va_A (aW X (fun t => ad (aRi h.length is t)) hc) H.size q.1 := by
    intro j q hx hq ha
    rcases ha with ⟨k, e, hk⟩ | hz
    · obtain ⟨h1, h2⟩ := hs.w hk
      have := hp.2.1 j _ q (q.1, e) hq h2 rfl
      subst this
      obtain ⟨t, ht⟩ := aIx_mem is _ (List.mem_of_getElem? h1)
      rw [hx] at ht
      cases ht
    · have := (hp.1 j q hq).lt
      omega
  refine ⟨fun j q hq => ?_, fun i j x y hi hj hxy => ?_, fun j q hq => ?_⟩
  · rcases aMg_w hs hn hle hr hk hq with ⟨h1, h2⟩ | ⟨t, h1, -⟩
    · exact (hp.1 j q h2).kept (hk1 q.1 (hp.1 j q h2).lt (apart j q h1 h2))
    · exact hp1.1 t q h1
  · rcases aMg_w hs hn hle hr hk hi with ⟨a1, a2⟩ | ⟨t, a1, a2⟩ <;> rcases aMg_w hs hn hle hr hk hj with ⟨b1, b2⟩ | ⟨u, b1, b2⟩
    · exact hp.2.1 i j x y a2 b2 hxy
    · exact absurd (by rw [hxy]; exact hp1.2.2 u y b1) (apart i x a1 a2)
    · exact absurd (by rw [← hxy]; exact hp1.2.2 t x a1) (apart j y b1 b2)
    · rw [a2, b2, hp1.2.1 t u x y a1 b1 hxy]
  · rcases aMg_w hs hn hle hr hk hq with ⟨h1, h2⟩ | ⟨t, h1, -⟩
    · exact hp.2.2 j q h2
    · exact hF _ (hp1.2.2 t q h1)
/-- a callee that changes nothing leaves the picture as it is -/
theorem aMg_id {h : List aCell} {is hc} (hs : aSel h is hc) (hn : va_nd is = true) : aMg h is hc = h := by
  apply List.ext_getElem?
  intro j
  rw [aMg_get (by rw [hs.len]; exact Nat.le_refl _)]
  by_cases hl : j < h.length
  · rw [if_pos hl]
    cases hx : aIx is j with
    | none => rfl
    | some t =>
      have h1 := aIx_some is j t hx
      have h3 : t < hc.length := by rw [← hs.len]; exact (List.getElem?_eq_some_iff.mp h1).1
      obtain ⟨g1, g2⟩ := hs.at (List.getElem?_eq_getElem h3)
      have h2 : j = aRi h.length is t := Option.some.inj (h1.symm.trans g1)
      dsimp only
      rw [List.getElem?_eq_getElem h3, h2, g2]
      rfl
  · rw [if_neg hl, List.getElem?_eq_none (l := h) (by omega), List.getElem?_eq_none (by rw [hs.len]; omega)]
    rfl
/-- what the caller must keep over a call: its locals, its stack, its other cells, its roots -/
abbrev aKeep (is rs : List Nat) (n : Nat) (L rest : List Value) (h : List aCell) (rs0 : List Nat) : Bool := L.all (aVo (aSb is rs n)) && rest.all (aVo (aSb is rs n)) && aRs is (aSb is rs n) 0 h && rs0.all (aSb is rs n)
section ACL
variable {l : Launch} {X : aX} {M M' : aM} {F : aPh} {kc ks pc : Nat} {L st rest av : List Value} {h hc : List aCell} {rs is : List Nat} {Q : aQt}
/-- the room and the words of a call -/
theorem a_run (hs : aSel h is hc) (hn : va_nd is = true) (hkeep : aKeep is rs h.length L rest h F.1 = true)
    (run : ∀ (p : Program) (e : Env) (s : State) (m : MethodId) (args : Array Value) (below : List Frame) (meth : Method) (c : Code) (H : Heap) (locs : List Loc) (ls : Array Slot) (A : Nat → Prop) (ad ad0 : Nat → Nat), aBs X M p s m meth c A → aPt X M F.1 A s.heap ad0 L h ad H locs ls →
      ∃ args' : Array Value, vx_Run p l e (aRm M) s m args below meth c H locs kc ks (aMc M') (aMs M') (F0 m pc ls (st.map (aV X ad))) (rest.map (aV X ad)) (aQc X rs (fun t => ad (aRi h.length is t)) (va_A (aW X (fun t => ad (aRi h.length is t)) hc) H.size) Q args') (aXc X rs (fun t => ad (aRi h.length is t)) (va_A (aW X (fun t => ad (aRi h.length is t)) hc) H.size) Q) (va_A (aW X (fun t => ad (aRi h.length is t)) hc) H.size))
    (kx : ∀ (E : String) (h' : List aCell), Q (.inr E) h' → is.length ≤ h'.length ∧ aT l X M F (kc + aMc M') (ks + aMs M') pc E L rest (aMg h is h'))
    (kk : ∀ (v : Option Value) (h' : List aCell), Q (.inl v) h' → is.length ≤ h'.length ∧ aJ l X M F (kc + aMc M') (ks + aMs M') (pc + 3) L ((v.map (aRv (aRi h.length is))).toList ++ rest) (aMg h is h')) : aJ l X M F kc ks pc L st h := by
  intro p e s m args below meth c H locs ls A ad ad0 B S T hT Xs
  obtain ⟨args', hr⟩ := run p e s m args below meth c H locs ls A ad ad0 B S
  simp only [aKeep, Bool.and_eq_true] at hkeep
  obtain ⟨⟨⟨hkL, hkR⟩, hkH⟩, hk0⟩ := hkeep
  have hFr : ∀ q, va_A (aW X (fun t => ad (aRi h.length is t)) hc) H.size q → A q := by
    intro q hq
    rcases hq with ⟨k, e9, hk⟩ | hz
    · exact S.2.2.1.2.2 _ _ (hs.w hk).2
    · exact B.2.2 q (Nat.le_trans S.2.1.1 hz)
  rcases hr T hT Xs with ⟨v, st₀, t, T', Lc, h0, X', hL, e1, e2, ⟨⟨v', ad', h', hv, hQ, hro, hp1⟩, hF⟩, sts⟩ | ⟨q, st₀, t, T', Lc, E, ce, h0, X', hL, e1, e2, ⟨⟨ad', h', hQ, hro, hp1⟩, hF⟩, hce, hcv, hcl, sts⟩
  · cases hv
    obtain ⟨k1, k2, k3⟩ := vx_keep h0 e1 S.2.1 (fun q _ hq => hFr q hq) hFr hL hF
    obtain ⟨hle, kj⟩ := kk v' h' hQ
    rw [← e1] at hp1
    have hpm := aMg_hp hs hn hle hro hkH S.2.2.1 hFr hp1 k2
    have hsb : ∀ i, aSb is rs h.length i = true → aA2 is h.length ad ad' i = ad i := fun i hi => aA2_sb hro hi
    have hw := kj p e s m args below meth c T'.heap (locs ++ Lc) ls A (aA2 is h.length ad ad') ad0 B ⟨fun i hi => by rw [hsb i (List.all_eq_true.mp hk0 i hi)]; exact S.1 i hi, k3, hpm, S.2.2.2.1, S.2.2.2.2.1, fun i w hi hv => by rw [aV_congr hsb (List.all_eq_true.mp hkL w (List.mem_of_getElem? hi))]; exact S.2.2.2.2.2 i w hi hv⟩
    have hst : ((v'.map (aRv (aRi h.length is))).toList ++ rest).map (aV X (aA2 is h.length ad ad')) = (v'.map (aV X ad')).toList ++ rest.map (aV X ad) := by
      rw [List.map_append, aVs_congr hsb hkR]
      congr 1
      cases v' with
      | none => rfl
      | some w =>
        show [aV X (aA2 is h.length ad ad') (aRv (aRi h.length is) w)] = [aV X ad' w]
        unfold aV
        rw [aRv_comp, show (fun i => aA2 is h.length ad ad' (aRi h.length is i)) = ad' from funext (aA2_ri hn hs.lt)]
    rw [hst] at hw
    obtain ⟨t2, a1, b1⟩ := hw T' rfl X'
    exact ⟨t2, sts t2 a1, b1⟩
  · obtain ⟨k1, k2, k3⟩ := vx_keep h0 e1 S.2.1 (fun q _ hq => hFr q hq) hFr hL hF
    obtain ⟨hle, kj⟩ := kx E h' hQ
    rw [← e1] at hp1
    have hpm := aMg_hp hs hn hle hro hkH S.2.2.1 hFr hp1 k2
    have hsb : ∀ i, aSb is rs h.length i = true → aA2 is h.length ad ad' i = ad i := fun i hi => aA2_sb hro hi
    have hw := kj p e s m args below meth c T'.heap (locs ++ Lc) ls A (aA2 is h.length ad ad') ad0 q ce B ⟨fun i hi => by rw [hsb i (List.all_eq_true.mp hk0 i hi)]; exact S.1 i hi, k3, hpm, S.2.2.2.1, S.2.2.2.2.1, fun i w hi hv => by rw [aV_congr hsb (List.all_eq_true.mp hkL w (List.mem_of_getElem? hi))]; exact S.2.2.2.2.2 i w hi hv⟩ (by rw [e1]; exact hce) hcv hcl
    rw [aVs_congr hsb hkR] at hw
    obtain ⟨t2, a1, b1⟩ := hw T' rfl X'
    exact ⟨t2, sts.trans a1, b1⟩
/-- a callee's own words -/
def aCb (M' : aM) (n : Nat) : Prop := aQ (aCd M') ∧ aQ (.initialized M'.1.cls) ∧ (M'.1.cls ≠ "java/lang/invoke/MethodHandle" ∧ M'.1.cls ≠ "java/lang/invoke/VarHandle") ∧ (parseMethodDescriptor M'.1.desc).map (fun d => d.parameters.length) = some n
theorem aCb.par {M' : aM} {n : Nat} (h : aCb M' n) : ∀ sig, parseMethodDescriptor M'.1.desc = some sig → n = sig.parameters.length := fun sig hs => by
  have := h.2.2.2
  rw [hs] at this
  exact (Option.some.inj this).symm
theorem aPre {X : aX} {h hc : List aCell} {is : List Nat} {av : List Value} {A : Nat → Prop} {s : State} {H : Heap} {ad : Nat → Nat} {locs : List Loc} (hs : aSel h is hc) (hn : va_nd is = true) (hE : aEn X A s s.heap) (hA : ∀ q, s.heap.size ≤ q → A q) (hS : va_S A s.heap H locs) (hp : aHp X ad h A H) (U : State) (hU : U.heap = H) (hW : s.WarmedH U.vm) :
    va_Pc (av.map (aV X (fun t => ad (aRi h.length is t)))) (fun U => U.heap.size = H.size ∧ va_P X.1 vwCl (aW X (fun t => ad (aRi h.length is t)) hc) U.heap ∧ va_D (fun _ => True) (aW X (fun t => ad (aRi h.length is t)) hc) ∧ aEn X (va_A (aW X (fun t => ad (aRi h.length is t)) hc) H.size) U U.heap) (av.map (aV X (fun t => ad (aRi h.length is t)))).toArray U := by
  refine ⟨rfl, by rw [hU], fun k q hk => ?_, ⟨fun i j x y hi hj hxy => ?_, fun _ _ _ => trivial⟩, ?_⟩
  · rw [hU]; exact hp.1 _ _ (hs.w hk).2
  · obtain ⟨a1, a2⟩ := hs.w hi
    obtain ⟨b1, b2⟩ := hs.w hj
    have := hp.2.1 _ _ x y a2 b2 hxy
    rw [← this] at b1
    exact va_nd_inj is hn i j _ a1 b1
  · rw [hU]
    refine ((hE.kept hS.2.1).narrow fun q hq => ?_).warm hW
    rcases hq with ⟨k, e9, hk⟩ | hz
    · exact hp.2.2 _ _ (hs.w hk).2
    · exact hA q (Nat.le_trans hS.1 hz)
theorem aBlind {X : aX} {w : va_W} {sz : Nat} {av : List Value} {A : Nat → Prop} : FrameBlind (va_Pc av (fun U => U.heap.size = sz ∧ va_P X.1 vwCl w U.heap ∧ va_D (fun _ => True) w ∧ aEn X A U U.heap)) := by
  intro a U g mk hp
  obtain ⟨h1, h2, h3, h4, h5⟩ := hp
  exact ⟨h1, h2, h3, h4, aEn.warm (u := U) (U := U.calling g mk a) (State.WarmedH.refl U) h5⟩
theorem aStk {X : aX} {ad : Nat → Nat} {f : Nat → Nat} {st av rest : List Value} (h : st = aPush (av.map (aRv f)) rest) : st.map (aV X ad) = (av.map (aV X (fun t => ad (f t)))).reverse ++ rest.map (aV X ad) := by
  rw [h, aPush_eq, List.map_append, List.map_reverse, List.map_map]
  congr 2
  apply List.map_congr_left
  intro v _
  show aCv X (aRv ad (aRv f v)) = aCv X (aRv (fun t => ad (f t)) v)
  rw [aRv_comp]
theorem aMt.met {rs : List Nat} (hC : aMt l X M' rs av hc Q) (hno : ∀ E h', ¬ Q (.inr E) h') (ad : Nat → Nat) (sz : Nat) : Met l M'.1 [aCd M'] (aRm M') (va_Pc (av.map (aV X ad)) (fun U => U.heap.size = sz ∧ va_P X.1 vwCl (aW X ad hc) U.heap ∧ va_D (fun _ => True) (aW X ad hc) ∧ aEn X (va_A (aW X ad hc) sz) U U.heap)) (aQc X rs ad (va_A (aW X ad hc) sz) Q) (aMc M') (aMs M') (va_A (aW X ad hc) sz) := by
  intro p e h1 h2 h3 s m args below hf ha hP hK
  obtain ⟨n, o, g1, g2, g3, g4⟩ := hC ad sz p e h1 h2 h3 s m args below hf ha hP hK
  rcases g4 with g4 | ⟨q, -, E, ce, L, ⟨⟨ad', h', hx, -⟩, -⟩, -⟩
  · exact ⟨n, o, g1, g2, g3, g4⟩
  · exact absurd hx (hno E h')
theorem aCalB {s : State} {args : Array Value} {n idx : Nat} (hb : aCb M' n) (hh : M'.2.2.2.2.1 = []) (hq : aQ (.methodLink M.1.cls idx M'.1)) (hT : aTb s) (hR : M'.2.2.2.2.2.1 + 1 ≤ M.2.2.2.2.2.1 ∧ 8 + (M'.2.2.1 + 11) + M'.2.2.2.2.2.2.1 ≤ M.2.2.2.2.2.2.1) : CallB (aRm M) s args M.1.cls idx M'.1 M'.2.1 M'.2.2.1 M'.2.2.2.1 [aCd M'] (aRm M') (aMc M') (aMs M') n := by
  have hcd : aCd M' = .code M'.1 M'.2.1 M'.2.2.1 M'.2.2.2.1 := by unfold aCd; rw [hh]
  refine ⟨rfl, rfl, hR.1, hR.2, fun w hw a' U hW => ?_, by rw [hcd]; exact List.mem_cons_self, by rw [← hcd]; exact hT _ hb.1 _, hT _ hb.2.1 _, hb.2.2.1, hb.par, hT _ hq _⟩
  rw [List.mem_singleton.mp hw]
  exact (hT.warm hW) _ hb.1 _
/-- invokevirtual -/
theorem a_callV {n idx ci : Nat} {C : String} {T : u_T} {N : Nat} {fs : List Value} {b : Nat} {As : List Value} (hC : aMt l X M' rs av hc Q) (hb : aCb M' n) (hh : M'.2.2.2.2.1 = []) (hq : aQ (.methodLink M.1.cls idx M'.1)) (hq2 : aQ (.instanceMethod M'.1)) (hq3 : aQ (.selects M'.1.cls M'.1 M'.1))
    (hav : av = .ref b :: As) (hnn : As.length = n) (hrc : hc[b]? = some (aOb ci fs)) (hcl : vwCl[ci]? = some (M'.1.cls, T, N))
    (hs : aSel h is hc) (hn : va_nd is = true) (hst : st = aPush (av.map (aRv (aRi h.length is))) rest) (hkeep : aKeep is rs h.length L rest h F.1 = true) (hcat : (rest.map fun v => v.category).sum ≤ 8)
    (hR : M'.2.2.2.2.2.1 + 1 ≤ M.2.2.2.2.2.1 ∧ 8 + (M'.2.2.1 + 11) + M'.2.2.2.2.2.2.1 ≤ M.2.2.2.2.2.2.1) (hf : kc + aMc M' ≤ aMc M ∧ ks + aMs M' ≤ aMs M) (hd : decode M.2.1 pc = .ok (.invokevirtual idx, 3))
    (kx : ∀ (E : String) (h' : List aCell), Q (.inr E) h' → is.length ≤ h'.length ∧ aT l X M F (kc + aMc M') (ks + aMs M') pc E L rest (aMg h is h'))
    (kk : ∀ (v : Option Value) (h' : List aCell), Q (.inl v) h' → is.length ≤ h'.length ∧ aJ l X M F (kc + aMc M') (ks + aMs M') (pc + 3) L ((v.map (aRv (aRi h.length is))).toList ++ rest) (aMg h is h')) : aJ l X M F kc ks pc L st h := by
  refine a_run hs hn hkeep (fun p e s m args below meth c H locs ls A ad ad0 B S => ?_) kx kk
  subst hav
  have hrecv : ∃ cell : Cell, H[ad (aRi h.length is b)]? = some cell ∧ cell.vm.isStatics = false ∧ s.vm.findClass M'.1.cls = some cell.cls := by
    obtain ⟨g1, g2⟩ := hs.at hrc
    exact va_recv (q := (M'.1.cls, T, N)) B.2.1.2.1 S.2.2.1.1 hcl (aW_at g2)
  exact ⟨_, vx_runV (C := M'.1.cls) (b := ad (aRi h.length is b)) (As := As.map (aV X (fun t => ad (aRi h.length is t)))) (Ts := []) ⟨B.1.1, B.1.2.1, B.1.2.2.2.1, B.1.2.2.2.2.1, fun w hw => nomatch hw⟩ (hC (fun t => ad (aRi h.length is t)) H.size) ⟨aCalB hb hh hq B.2.1.1 hR, B.2.1.1 _ hq2 _, B.2.1.1 _ hq3 _⟩
    ⟨aBlind, hrecv, fun U hU hW => aPre (av := .ref b :: As) hs hn B.2.1 B.2.2 S.2.1 S.2.2.1 U hU hW⟩ rfl (by rw [List.length_map]; exact hnn) S.2.2.2.1 ((aStk hst).trans (by simp [aV, aRv, aCv])) (lv_room (by rw [aVs_cat]; exact hcat)) hd hf⟩
/-- invokestatic -/
theorem a_callS {n idx : Nat} (hC : aMt l X M' rs av hc Q) (hb : aCb M' n) (hh : M'.2.2.2.2.1 = []) (hq : aQ (.methodLink M.1.cls idx M'.1)) (hq2 : aQ (.static M'.1)) (hnn : av.length = n)
    (hs : aSel h is hc) (hn : va_nd is = true) (hst : st = aPush (av.map (aRv (aRi h.length is))) rest) (hkeep : aKeep is rs h.length L rest h F.1 = true) (hcat : (rest.map fun v => v.category).sum ≤ 8)
    (hR : M'.2.2.2.2.2.1 + 1 ≤ M.2.2.2.2.2.1 ∧ 8 + (M'.2.2.1 + 11) + M'.2.2.2.2.2.2.1 ≤ M.2.2.2.2.2.2.1) (hf : kc + aMc M' ≤ aMc M ∧ ks + aMs M' ≤ aMs M) (hd : decode M.2.1 pc = .ok (.invokestatic idx, 3))
    (kx : ∀ (E : String) (h' : List aCell), Q (.inr E) h' → is.length ≤ h'.length ∧ aT l X M F (kc + aMc M') (ks + aMs M') pc E L rest (aMg h is h'))
    (kk : ∀ (v : Option Value) (h' : List aCell), Q (.inl v) h' → is.length ≤ h'.length ∧ aJ l X M F (kc + aMc M') (ks + aMs M') (pc + 3) L ((v.map (aRv (aRi h.length is))).toList ++ rest) (aMg h is h')) : aJ l X M F kc ks pc L st h := by
  refine a_run hs hn hkeep (fun p e s m args below meth c H locs ls A ad ad0 B S => ?_) kx kk
  exact ⟨_, vx_runS (As := av.map (aV X (fun t => ad (aRi h.length is t)))) (Ts := []) ⟨B.1.1, B.1.2.1, B.1.2.2.2.1, B.1.2.2.2.2.1, fun w hw => nomatch hw⟩ (hC (fun t => ad (aRi h.length is t)) H.size) ⟨aCalB hb hh hq B.2.1.1 hR, B.2.1.1 _ hq2 _⟩
    ⟨aBlind, fun U hU hW => aPre (av := av) hs hn B.2.1 B.2.2 S.2.1 S.2.2.1 U hU hW⟩ rfl (by rw [List.length_map]; exact hnn) S.2.2.2.1 (aStk hst) (lv_room (by rw [aVs_cat]; exact hcat)) hd hf⟩
/-- invokespecial of a constructor that doesn't throw -/
theorem a_callI {n idx : Nat} {b : Nat} {As : List Value} (hC : aMt l X M' rs av hc Q) (hno : ∀ E h', ¬ Q (.inr E) h') (hb : aCb M' n) (hh : M'.2.2.2.2.1 = []) (hre : M'.2.2.2.1 = none) (hq : aQ (.methodLink M.1.cls idx M'.1)) (hq2 : aQ (.instanceMethod M'.1)) (hnm : M'.1.name = "<init>") (hav : av = .ref b :: As) (hnn : As.length = n)
    (hs : aSel h is hc) (hn : va_nd is = true) (hst : st = aPush (av.map (aRv (aRi h.length is))) rest) (hkeep : aKeep is rs h.length L rest h F.1 = true) (hcat : (rest.map fun v => v.category).sum ≤ 8)
    (hR : M'.2.2.2.2.2.1 + 1 ≤ M.2.2.2.2.2.1 ∧ 8 + (M'.2.2.1 + 11) + M'.2.2.2.2.2.2.1 ≤ M.2.2.2.2.2.2.1) (hf : kc + aMc M' ≤ aMc M ∧ ks + aMs M' ≤ aMs M) (hd : decode M.2.1 pc = .ok (.invokespecial idx, 3))
    (kk : ∀ (v : Option Value) (h' : List aCell), Q (.inl v) h' → is.length ≤ h'.length ∧ aJ l X M F (kc + aMc M') (ks + aMs M') (pc + 3) L ((v.map (aRv (aRi h.length is))).toList ++ rest) (aMg h is h')) : aJ l X M F kc ks pc L st h := by
  refine a_run hs hn hkeep (fun p e s m args below meth c H locs ls A ad ad0 B S => ?_) (fun E h' hx => absurd hx (hno E h')) kk
  subst hav
  have hcb := aCalB (M := M) (args := args) hb hh hq B.2.1.1 hR
  rw [hre] at hcb
  have hr := va_runI (p := p) (e := e) (below := below) (meth := meth) (locs := locs) (cells := kc) (slots := ks) (g := F0 m pc ls (st.map (aV X ad))) (rest := rest.map (aV X ad)) (b := ad (aRi h.length is b)) (As := As.map (aV X (fun t => ad (aRi h.length is t)))) (Ts := []) ⟨B.1.1, B.1.2.1, B.1.2.2.2.1, B.1.2.2.2.2.1, fun w hw => nomatch hw⟩ (hC.met hno (fun t => ad (aRi h.length is t)) H.size) ⟨hcb, hnm, B.2.1.1 _ hq2 _⟩
    ⟨aBlind, fun U hU hW => aPre (av := .ref b :: As) hs hn B.2.1 B.2.2 S.2.1 S.2.2.1 U hU hW⟩ rfl (by rw [List.length_map]; exact hnn) S.2.2.2.1 ((aStk hst).trans (by simp [aV, aRv, aCv])) (lv_room (by rw [aVs_cat]; exact hcat)) hd hf
  exact ⟨_, fun T hT XX => Or.inl (hr T hT XX)⟩
/-- .. of a nest mate's -/
theorem a_callIN {n idx : Nat} {host : String} {b : Nat} {As : List Value} (hC : aMt l X M' rs av hc Q) (hno : ∀ E h', ¬ Q (.inr E) h') (hb : aCb M' n) (hh : M'.2.2.2.2.1 = []) (hre : M'.2.2.2.1 = none) (hq : aQ (.methodLinkNest M.1.cls idx M'.1 host)) (hq2 : aQ (.instanceMethod M'.1)) (hnm : M'.1.name = "<init>") (hav : av = .ref b :: As) (hnn : As.length = n)
    (hs : aSel h is hc) (hn : va_nd is = true) (hst : st = aPush (av.map (aRv (aRi h.length is))) rest) (hkeep : aKeep is rs h.length L rest h F.1 = true) (hcat : (rest.map fun v => v.category).sum ≤ 8)
    (hR : M'.2.2.2.2.2.1 + 1 ≤ M.2.2.2.2.2.1 ∧ 8 + (M'.2.2.1 + 11) + M'.2.2.2.2.2.2.1 ≤ M.2.2.2.2.2.2.1) (hf : kc + aMc M' ≤ aMc M ∧ ks + aMs M' ≤ aMs M) (hd : decode M.2.1 pc = .ok (.invokespecial idx, 3))
    (kk : ∀ (v : Option Value) (h' : List aCell), Q (.inl v) h' → is.length ≤ h'.length ∧ aJ l X M F (kc + aMc M') (ks + aMs M') (pc + 3) L ((v.map (aRv (aRi h.length is))).toList ++ rest) (aMg h is h')) : aJ l X M F kc ks pc L st h := by
  refine a_run hs hn hkeep (fun p e s m args below meth c H locs ls A ad ad0 B S => ?_) (fun E h' hx => absurd hx (hno E h')) kk
  subst hav
  have hcd : aCd M' = .code M'.1 M'.2.1 M'.2.2.1 none := by unfold aCd; rw [hh, hre]
  have hcn : va_CN (aRm M) s args M.1.cls idx M'.1 host M'.2.1 M'.2.2.1 none [aCd M'] (aRm M') (aMc M') (aMs M') n := by
    refine ⟨⟨rfl, rfl, hR.1, hR.2, fun w hw a' U hW => ?_, by rw [hcd]; exact List.mem_cons_self⟩, by rw [← hcd]; exact B.2.1.1 _ hb.1 _, B.2.1.1 _ hb.2.1 _, hb.2.2.1, hb.par, B.2.1.1 _ hq _⟩
    rw [List.mem_singleton.mp hw]
    exact (B.2.1.1.warm hW) _ hb.1 _
  have hr := va_runIN (p := p) (e := e) (below := below) (meth := meth) (locs := locs) (cells := kc) (slots := ks) (g := F0 m pc ls (st.map (aV X ad))) (rest := rest.map (aV X ad)) (b := ad (aRi h.length is b)) (As := As.map (aV X (fun t => ad (aRi h.length is t)))) (Ts := []) ⟨B.1.1, B.1.2.1, B.1.2.2.2.1, B.1.2.2.2.2.1, fun w hw => nomatch hw⟩ (hC.met hno (fun t => ad (aRi h.length is t)) H.size) ⟨hcn, hnm, B.2.1.1 _ hq2 _⟩
    ⟨aBlind, fun U hU hW => aPre (av := .ref b :: As) hs hn B.2.1 B.2.2 S.2.1 S.2.2.1 U hU hW⟩ rfl (by rw [List.length_map]; exact hnn) S.2.2.2.1 ((aStk hst).trans (by simp [aV, aRv, aCv])) (lv_room (by rw [aVs_cat]; exact hcat)) hd hf
  exact ⟨_, fun T hT XX => Or.inl (hr T hT XX)⟩
/-- a nest mate's private static method that doesn't throw -/
theorem a_callSN {n idx : Nat} {host : String} (hC : aMt l X M' rs av hc Q) (hno : ∀ E h', ¬ Q (.inr E) h') (hb : aCb M' n) (hh : M'.2.2.2.2.1 = []) (hq : aQ (.methodLinkNest M.1.cls idx M'.1 host)) (hq2 : aQ (.static M'.1)) (hnn : av.length = n)
    (hs : aSel h is hc) (hn : va_nd is = true) (hst : st = aPush (av.map (aRv (aRi h.length is))) rest) (hkeep : aKeep is rs h.length L rest h F.1 = true) (hcat : (rest.map fun v => v.category).sum ≤ 8)
    (hR : M'.2.2.2.2.2.1 + 1 ≤ M.2.2.2.2.2.1 ∧ 8 + (M'.2.2.1 + 11) + M'.2.2.2.2.2.2.1 ≤ M.2.2.2.2.2.2.1) (hf : kc + aMc M' ≤ aMc M ∧ ks + aMs M' ≤ aMs M) (hd : decode M.2.1 pc = .ok (.invokestatic idx, 3))
    (kk : ∀ (v : Option Value) (h' : List aCell), Q (.inl v) h' → is.length ≤ h'.length ∧ aJ l X M F (kc + aMc M') (ks + aMs M') (pc + 3) L ((v.map (aRv (aRi h.length is))).toList ++ rest) (aMg h is h')) : aJ l X M F kc ks pc L st h := by
  refine a_run hs hn hkeep (fun p e s m args below meth c H locs ls A ad ad0 B S => ?_) (fun E h' hx => absurd hx (hno E h')) kk
  have hcd : aCd M' = .code M'.1 M'.2.1 M'.2.2.1 M'.2.2.2.1 := by unfold aCd; rw [hh]
  have hcn : va_CN (aRm M) s args M.1.cls idx M'.1 host M'.2.1 M'.2.2.1 M'.2.2.2.1 [aCd M'] (aRm M') (aMc M') (aMs M') n := by
    refine ⟨⟨rfl, rfl, hR.1, hR.2, fun w hw a' U hW => ?_, by rw [hcd]; exact List.mem_cons_self⟩, by rw [← hcd]; exact B.2.1.1 _ hb.1 _, B.2.1.1 _ hb.2.1 _, hb.2.2.1, hb.par, B.2.1.1 _ hq _⟩
    rw [List.mem_singleton.mp hw]
    exact (B.2.1.1.warm hW) _ hb.1 _
  have hr := va_runSN (p := p) (e := e) (below := below) (meth := meth) (locs := locs) (cells := kc) (slots := ks) (g := F0 m pc ls (st.map (aV X ad))) (rest := rest.map (aV X ad)) (As := av.map (aV X (fun t => ad (aRi h.length is t)))) (Ts := []) ⟨B.1.1, B.1.2.1, B.1.2.2.2.1, B.1.2.2.2.2.1, fun w hw => nomatch hw⟩ (hC.met hno (fun t => ad (aRi h.length is t)) H.size) ⟨hcn, B.2.1.1 _ hq2 _, trivial⟩
    ⟨aBlind, fun U hU hW => aPre (av := av) hs hn B.2.1 B.2.2 S.2.1 S.2.2.1 U hU hW⟩ rfl (by rw [List.length_map]; exact hnn) S.2.2.2.1 (aStk hst) (lv_room (by rw [aVs_cat]; exact hcat)) hd hf
  exact ⟨_, fun T hT XX => Or.inl (hr T hT XX)⟩
/-- invokestatic of a method with handlers -/
theorem a_callSX {n idx : Nat} (hC : aMt l X M' rs av hc Q) (hb : aCb M' n) (hcd : aCd M' = .codeWith M'.1 M'.2.1 M'.2.2.1 M'.2.2.2.1 M'.2.2.2.2.1) (hq : aQ (.methodLink M.1.cls idx M'.1)) (hq2 : aQ (.static M'.1)) (hnn : av.length = n)
    (hs : aSel h is hc) (hn : va_nd is = true) (hst : st = aPush (av.map (aRv (aRi h.length is))) rest) (hkeep : aKeep is rs h.length L rest h F.1 = true) (hcat : (rest.map fun v => v.category).sum ≤ 8)
    (hR : M'.2.2.2.2.2.1 + 1 ≤ M.2.2.2.2.2.1 ∧ 8 + (M'.2.2.1 + 11) + M'.2.2.2.2.2.2.1 ≤ M.2.2.2.2.2.2.1) (hf : kc + aMc M' ≤ aMc M ∧ ks + aMs M' ≤ aMs M) (hd : decode M.2.1 pc = .ok (.invokestatic idx, 3))
    (kx : ∀ (E : String) (h' : List aCell), Q (.inr E) h' → is.length ≤ h'.length ∧ aT l X M F (kc + aMc M') (ks + aMs M') pc E L rest (aMg h is h'))
    (kk : ∀ (v : Option Value) (h' : List aCell), Q (.inl v) h' → is.length ≤ h'.length ∧ aJ l X M F (kc + aMc M') (ks + aMs M') (pc + 3) L ((v.map (aRv (aRi h.length is))).toList ++ rest) (aMg h is h')) : aJ l X M F kc ks pc L st h := by
  refine a_run hs hn hkeep (fun p e s m args below meth c H locs ls A ad ad0 B S => ?_) kx kk
  have hcw : vx_CSW (aRm M) s args M.1.cls idx M'.1 M'.2.1 M'.2.2.1 M'.2.2.2.1 M'.2.2.2.2.1 [aCd M'] (aRm M') (aMc M') (aMs M') n := by
    refine ⟨⟨rfl, rfl, hR.1, hR.2, fun w hw a' U hW => ?_, by rw [hcd]; exact List.mem_cons_self⟩, by rw [← hcd]; exact B.2.1.1 _ hb.1 _, B.2.1.1 _ hb.2.1 _, hb.2.2.1, hb.par, B.2.1.1 _ hq _, B.2.1.1 _ hq2 _⟩
    rw [List.mem_singleton.mp hw]
    exact (B.2.1.1.warm hW) _ hb.1 _
  exact ⟨_, vx_runSX (As := av.map (aV X (fun t => ad (aRi h.length is t)))) (Ts := []) ⟨B.1.1, B.1.2.1, B.1.2.2.2.1, B.1.2.2.2.2.1, fun w hw => nomatch hw⟩ (hC (fun t => ad (aRi h.length is t)) H.size) hcw
    ⟨aBlind, fun U hU hW => aPre (av := av) hs hn B.2.1 B.2.2 S.2.1 S.2.2.1 U hU hW⟩ rfl (by rw [List.length_map]; exact hnn) S.2.2.2.1 (aStk hst) (lv_room (by rw [aVs_cat]; exact hcat)) hd hf⟩
end ACL
/-- a part of the picture, or the same in another order -/
theorem a_sel {l : Launch} {X : aX} {M : aM} {F : aPh} {kc ks pc : Nat} {L st L' st' : List Value} {h h' : List aCell} (is : List Nat) (hs : aSel h is h') (hn : va_nd is = true) (hL : L = L'.map (aRv (aRi h.length is))) (hst : st = st'.map (aRv (aRi h.length is))) (hr : F.1.all (fun i => aRi h.length is i == i) = true) (k : aJ l X M F kc ks pc L' st' h') : aJ l X M F kc ks pc L st h := by
  intro p e s m args below meth c H locs ls A ad ad0 B S
  have hv : ∀ v : Value, aV X ad (aRv (aRi h.length is) v) = aV X (fun t => ad (aRi h.length is t)) v := fun v => by unfold aV; rw [aRv_comp]
  have := k p e s m args below meth c H locs ls A (fun t => ad (aRi h.length is t)) ad0 B ⟨fun i hi => ?_, S.2.1, ⟨fun k q hk => S.2.2.1.1 _ _ (hs.w hk).2, fun i j x y hi hj hxy => ?_, fun k q hk => S.2.2.1.2.2 _ _ (hs.w hk).2⟩, S.2.2.2.1, S.2.2.2.2.1, fun i v hi hn9 => ?_⟩
  · rw [hst, List.map_map]
    rw [show (aV X ad ∘ aRv (aRi h.length is)) = aV X (fun t => ad (aRi h.length is t)) from funext hv]
    exact this
  · have h1 := List.all_eq_true.mp hr i hi
    rw [beq_iff_eq] at h1
    dsimp only
    rw [h1]; exact S.1 i hi
  · obtain ⟨a1, a2⟩ := hs.w hi
    obtain ⟨b1, b2⟩ := hs.w hj
    have h9 := S.2.2.1.2.1 _ _ x y a2 b2 hxy
    rw [← h9] at b1
    exact va_nd_inj is hn i j _ a1 b1
  · rw [← hv]
    refine S.2.2.2.2.2 i _ (by rw [hL, List.getElem?_map, hi]; rfl) ?_
    cases v <;> first | exact absurd rfl hn9 | (intro z; cases z)
end
section
/-! ===== throws and handlers ===== -/
/-- the words of 'throw new cls(text)' in class own -/
def aTw (own : String) (ik ic : Nat) (cls : String) (names : List String) : Prop :=
  aQ (.classLink own ik cls) ∧ aQ (.initialized cls) ∧ (∀ w ∈ vx_atS own ic cls names, aQ w) ∧ (∀ w ∈ Cond.classLink own ik cls :: Cond.initialized cls :: vx_atS own ic cls names, vx_ot w = true) ∧ Bundle.fit cls = true ∧ ∀ n ∈ names, Bundle.fit n = true
section ATH
variable {l : Launch} {X : aX} {M : aM} {rs : List Nat} {Q : aQt} {kc ks pc : Nat} {L st : List Value} {h : List aCell}
theorem a_throw {ik ic is : Nat} {cls text : String} {names : List String} (hl : l.stackTraces = false) (hw : aTw M.1.cls ik ic cls names) (htx : Cond.stringRef M.1.cls is text ∈ lw_tbl) (hh : M.2.2.2.2.1 = [])
    (d0 : decode M.2.1 pc = .ok (.new ik, 3)) (d3 : decode M.2.1 (pc + 3) = .ok (.dup, 1)) (d4 : decode M.2.1 (pc + 4) = .ok (.ldc is, 2)) (d6 : decode M.2.1 (pc + 6) = .ok (.invokespecial ic, 3)) (d9 : decode M.2.1 (pc + 9) = .ok (.athrow, 1))
    (hR : names.length + 3 < M.2.2.2.2.2.1 ∧ (st.map fun v => v.category).sum + (13 * (names.length + 1) + 43) ≤ M.2.2.2.2.2.2.1) (hc : kc + 1 ≤ aMc M) (hs : ks + 6 ≤ aMs M) (hq : Q (.inr cls) h) : aJ l X M (aEd X M rs Q) kc ks pc L st h := by
  intro p e s m args below meth c H locs ls A ad ad0 B S
  obtain ⟨w1, w2, w3, w4, w5, w6⟩ := hw
  obtain ⟨sa, hsa⟩ := B.2.1.2.2.2.1 _ htx M.1.cls is text rfl
  have hout : ∀ x ∈ c.exceptionTable.toList, covers x (pc + 9) = false := by
    rw [B.1.2.2.2.2.2.2.2, hh]
    intro x hx
    cases hx
  refine vx_throwS (A := A) B.1.1 B.1.2.1 hl B.1.2.2.2.2.1 w5 w6 (B.2.1.1 _ w1 _) (B.2.1.1 _ w2 _) hsa (fun w hw => B.2.1.1 w (w3 w hw) _) w4 B.2.1.2.2.2.2.2.1 B.2.1.2.2.2.2.2.2.1 S.2.1 (S.2.2.2.1.trans B.1.2.2.2.1.symm) d0 d3 d4 d6 d9 hout hR.1 (by rw [aVs_cat]; exact hR.2) hc hs B.1.2.2.2.2.2.1 (fun t ht hz hk => ?_) S.2.1.2.2 hc hs
  refine ⟨⟨ad, h, hq, S.1, ⟨fun k q hq => ((S.2.2.1.1 k q hq).kept (hk q.1 (S.2.2.1.1 k q hq).lt)), S.2.2.1.2⟩⟩, Nat.le_trans S.2.1.1 hz, fun q h1 h2 => ?_⟩
  rw [hk q (Nat.lt_of_lt_of_le h1 S.2.1.1)]
  exact S.2.1.2.1 q h1 h2
/-- it goes on to the caller -/
theorem a_out {E : String} (hh : M.2.2.2.2.1 = []) (hc : kc ≤ aMc M) (hs : ks ≤ aMs M) (hq : Q (.inr E) h) : aT l X M (aEd X M rs Q) kc ks pc E L st h := by
  intro p e s m args below meth c H locs ls A ad ad0 q ce B S hce hcv hcl
  have hout : ∀ x ∈ c.exceptionTable.toList, covers x pc = false := by
    rw [B.1.2.2.2.2.2.2.2, hh]
    intro x hx
    cases hx
  refine vx_out hout B.1.2.2.2.2.2.1 hce hcv hcl (fun t ht hA => ?_) S.2.1.2.2 hc hs
  refine ⟨⟨ad, h, hq, S.1, by rw [ht]; exact S.2.2.1⟩, S.2.1.F ht⟩
end ATH
section ACT
variable {l : Launch} {X : aX} {M : aM} {F : aPh} {kc ks pc : Nat} {L st : List Value} {h : List aCell}
/-- the first handler takes it -/
theorem a_catch0 {E name : String} {x : Nat × Nat × Nat × Nat} {suf : List (Nat × Nat × Nat × Nat)} (hh : M.2.2.2.2.1 = x :: suf) (hcov : covers ⟨x.1, x.2.1, x.2.2.1, x.2.2.2⟩ pc = true) (h0 : x.2.2.2 ≠ 0) (hq : aQ (.classLink M.1.cls x.2.2.2 name)) (hca : aQ (.castable E name))
    (hok : (L.all (aVo (aBe h.length)) && ([] : List Value).all (aVo (aBe h.length)) && h.all (aCo (aBe h.length)) && F.1.all (aBe h.length)) = true) (k : aJ l X M F kc ks x.2.2.1 L [.ref h.length] h) : aT l X M F kc ks pc E L st h := by
  intro p e s m args below meth c H locs ls A ad ad0 q ce B S hce hcv hcl
  obtain ⟨u1, u2, u3, u4⟩ := S.up (q := q) (st := []) hok
  have hw := k p e s m args below meth c H locs ls A (aUp ad h.length q) ad0 B ⟨u1, S.2.1, by unfold aHp; rw [u2]; exact S.2.2.1, u3⟩
  have hv : [Value.ref h.length].map (aV X (aUp ad h.length q)) = [.ref q] := by
    show [Value.ref (aUp ad h.length q h.length)] = _
    unfold aUp; rw [if_pos rfl]
  rw [hv] at hw
  exact vx_catch B.1.2.2.2.2.1 [] ⟨x.1, x.2.1, x.2.2.1, x.2.2.2⟩ (tableOf suf) (by rw [B.1.2.2.2.2.2.2.2, hh]; rfl) (fun z hz => nomatch hz) hcov h0 (B.2.1.1 _ hq _) (B.2.1.1 _ hca _) hce hcv hcl hw
/-- the second handler takes it: an IllegalStateException past a handler of IllegalArgumentException -/
theorem a_catch1 {name : String} {y x : Nat × Nat × Nat × Nat} {suf : List (Nat × Nat × Nat × Nat)} (hh : M.2.2.2.2.1 = y :: x :: suf) (hy0 : y.2.2.2 ≠ 0) (hyq : aQ (.classLink M.1.cls y.2.2.2 "java/lang/IllegalArgumentException")) (hcov : covers ⟨x.1, x.2.1, x.2.2.1, x.2.2.2⟩ pc = true) (h0 : x.2.2.2 ≠ 0) (hq : aQ (.classLink M.1.cls x.2.2.2 name)) (hca : aQ (.castable "java/lang/IllegalStateException" name))
    (hok : (L.all (aVo (aBe h.length)) && ([] : List Value).all (aVo (aBe h.length)) && h.all (aCo (aBe h.length)) && F.1.all (aBe h.length)) = true) (k : aJ l X M F kc ks x.2.2.1 L [.ref h.length] h) : aT l X M F kc ks pc "java/lang/IllegalStateException" L st h := by
  intro p e s m args below meth c H locs ls A ad ad0 q ce B S hce hcv hcl
  obtain ⟨u1, u2, u3, u4⟩ := S.up (q := q) (st := []) hok
  have hw := k p e s m args below meth c H locs ls A (aUp ad h.length q) ad0 B ⟨u1, S.2.1, by unfold aHp; rw [u2]; exact S.2.2.1, u3⟩
  have hv : [Value.ref h.length].map (aV X (aUp ad h.length q)) = [.ref q] := by
    show [Value.ref (aUp ad h.length q h.length)] = _
    unfold aUp; rw [if_pos rfl]
  rw [hv] at hw
  refine vx_catch B.1.2.2.2.2.1 [⟨y.1, y.2.1, y.2.2.1, y.2.2.2⟩] ⟨x.1, x.2.1, x.2.2.1, x.2.2.2⟩ (tableOf suf) (by rw [B.1.2.2.2.2.2.2.2, hh]; rfl) (fun z hz => ?_) hcov h0 (B.2.1.1 _ hq _) (B.2.1.1 _ hca _) hce hcv hcl hw
  rw [List.mem_singleton.mp hz]
  exact Or.inr ⟨hy0, _, B.2.1.1 _ hyq _, B.2.1.2.2.2.2.1⟩
end ACT
/-! ===== shapes of contracts ===== -/
/-- it answers v and leaves all as it was -/
abbrev aRd (l : Launch) (X : aX) (M : aM) (rs : List Nat) (av : List Value) (h : List aCell) (v : Value) : Prop := aMt l X M rs av h (fun o h' => o = .inl (some v) ∧ h' = h)
/-- it answers v (or nothing) and leaves h1 -/
abbrev aWr (l : Launch) (X : aX) (M : aM) (rs : List Nat) (av : List Value) (h : List aCell) (v : Option Value) (h1 : List aCell) : Prop := aMt l X M rs av h (fun o h' => o = .inl v ∧ h' = h1)
theorem aMt.weak {l : Launch} {X : aX} {M : aM} {rs : List Nat} {av : List Value} {h : List aCell} {Q Q' : aQt} (hC : aMt l X M rs av h Q) (hq : ∀ o h', Q o h' → Q' o h') : aMt l X M rs av h Q' := by
  intro ad sz p e h1 h2 h3 s m args below hf ha hP hK
  obtain ⟨n, o, g1, g2, g3, g4⟩ := hC ad sz p e h1 h2 h3 s m args below hf ha hP hK
  refine ⟨n, o, g1, g2, g3, ?_⟩
  rcases g4 with ⟨⟨⟨v, ad', h', a1, a2, a3⟩, a4⟩, a5⟩ | ⟨q, hq0, E, ce, L, ⟨⟨ad', h', b1, b2⟩, b3⟩, b4⟩
  · exact Or.inl ⟨⟨⟨v, ad', h', a1, hq _ _ a2, a3⟩, a4⟩, a5⟩
  · exact Or.inr ⟨q, hq0, E, ce, L, ⟨⟨ad', h', hq _ _ b1, b2⟩, b3⟩, b4⟩
end
section
/-! ===== methods and words, by their places in the tables (written by wip/whole/gen_words.py) ===== -/
abbrev mX0_init : aM := (yX0_init, cX0_init, 1, none, [], 1, 20, 4, 40)
abbrev mX0_clear : aM := (yX0_clear, cX0_clear, 1, none, [], 1, 23, 0, 0)
abbrev mX0_copyFrom : aM := (yX0_copyFrom, cX0_copyFrom, 3, none, [], 0, 0, 0, 0)
abbrev mX0_isNumber : aM := (yX0_isNumber, cX0_isNumber, 1, (some .boolean), [], 0, 0, 0, 0)
abbrev mX0_has : aM := (yX0_has, cX0_has, 2, (some .boolean), [], 1, 20, 0, 0)
abbrev mX0_isUp : aM := (yX0_isUp, cX0_isUp, 2, (some .boolean), [], 2, 41, 0, 0)
abbrev mX0_name : aM := (yX0_name, cX0_name, 2, (some .int), [], 2, 41, 0, 0)
abbrev mX0_weight : aM := (yX0_weight, cX0_weight, 2, (some .int), [], 2, 41, 0, 0)
abbrev mX0_load : aM := (yX0_load, cX0_load, 2, (some .long), [], 2, 41, 0, 0)
abbrev mX0_put : aM := (yX0_put, cX0_put, 4, none, [], 1, 20, 0, 0)
abbrev mX0_drop : aM := (yX0_drop, cX0_drop, 2, none, [], 1, 20, 0, 0)
abbrev mX0_changeWeight : aM := (yX0_changeWeight, cX0_changeWeight, 3, none, [], 2, 41, 0, 0)
abbrev mX0_changeUp : aM := (yX0_changeUp, cX0_changeUp, 3, none, [], 2, 41, 0, 0)
abbrev mX0_addLoad : aM := (yX0_addLoad, cX0_addLoad, 3, none, [], 2, 41, 0, 0)
abbrev mX0_size : aM := (yX0_size, cX0_size, 3, (some .int), [], 2, 41, 0, 0)
abbrev mX0_upCount : aM := (yX0_upCount, cX0_upCount, 3, (some .int), [], 3, 62, 0, 0)
abbrev mX0_find : aM := (yX0_find, cX0_find, 3, (some .int), [], 0, 0, 0, 0)
abbrev mX0_lowestFree : aM := (yX0_lowestFree, cX0_lowestFree, 1, (some .int), [], 1, 22, 0, 0)
abbrev mX0_weightSum : aM := (yX0_weightSum, cX0_weightSum, 3, (some .int), [], 3, 62, 0, 0)
abbrev mX0_greatestWeightWithout : aM := (yX0_greatestWeightWithout, cX0_greatestWeightWithout, 4, (some .int), [], 3, 62, 0, 0)
abbrev mX0_ranked : aM := (yX0_ranked, cX0_ranked, 3, (some .int), [], 5, 111, 0, 0)
abbrev mX0_countBefore : aM := (yX0_countBefore, cX0_countBefore, 4, (some .int), [], 4, 88, 0, 0)
abbrev mX0_ranksBefore : aM := (yX0_ranksBefore, cX0_ranksBefore, 7, (some .boolean), [], 3, 62, 0, 0)
abbrev mX1_init : aM := (yX1_init, cX1_init, 2, none, [], 3, 60, 37, 248)
abbrev mX1_clear : aM := (yX1_clear, cX1_clear, 1, none, [], 0, 0, 0, 0)
abbrev mX1_size : aM := (yX1_size, cX1_size, 1, (some .int), [], 0, 0, 0, 0)
abbrev mX1_remember : aM := (yX1_remember, cX1_remember, 5, none, [], 2, 44, 0, 0)
abbrev mX1_bringBack : aM := (yX1_bringBack, cX1_bringBack, 5, none, [], 2, 44, 0, 0)
abbrev mX2_init : aM := (yX2_init, cX2_init, 1, none, [], 1, 20, 2, 12)
abbrev mX2_clear : aM := (yX2_clear, cX2_clear, 1, none, [], 0, 0, 0, 0)
abbrev mX2_copyFrom : aM := (yX2_copyFrom, cX2_copyFrom, 3, none, [], 0, 0, 0, 0)
abbrev mX2_size : aM := (yX2_size, cX2_size, 1, (some .int), [], 0, 0, 0, 0)
abbrev mX2_server : aM := (yX2_server, cX2_server, 3, (some .int), [], 0, 0, 0, 0)
abbrev mX2_put : aM := (yX2_put, cX2_put, 3, none, [], 2, 45, 0, 0)
abbrev mX2_drop : aM := (yX2_drop, cX2_drop, 4, none, [], 1, 22, 0, 0)
abbrev mX2_dropServer : aM := (yX2_dropServer, cX2_dropServer, 4, none, [], 1, 22, 0, 0)
abbrev mX2_append : aM := (yX2_append, cX2_append, 3, none, [], 0, 0, 0, 0)
abbrev mX3_init : aM := (yX3_init, cX3_init, 2, none, [], 2, 44, 3, 132)
abbrev mX3_startAnew : aM := (yX3_startAnew, cX3_startAnew, 2, none, [], 1, 23, 0, 0)
abbrev mX3_size : aM := (yX3_size, cX3_size, 1, (some .int), [], 0, 0, 0, 0)
abbrev mX3_isSlot : aM := (yX3_isSlot, cX3_isSlot, 2, (some .boolean), [], 0, 0, 0, 0)
abbrev mX3_owner : aM := (yX3_owner, cX3_owner, 2, (some .int), [], 1, 21, 0, 0)
abbrev mX3_changedSlots : aM := (yX3_changedSlots, cX3_changedSlots, 1, (some .int), [], 0, 0, 0, 0)
abbrev mX3_forcedSlots : aM := (yX3_forcedSlots, cX3_forcedSlots, 1, (some .int), [], 0, 0, 0, 0)
abbrev mX3_ownedBy : aM := (yX3_ownedBy, cX3_ownedBy, 4, (some .int), [], 0, 0, 0, 0)
abbrev mX3_slotOfKey : aM := (yX3_slotOfKey, cX3_slotOfKey, 2, (some .int), [], 1, 22, 0, 0)
abbrev mX3_preferredSlot : aM := (yX3_preferredSlot, cX3_preferredSlot, 5, (some .int), [], 1, 22, 0, 0)
abbrev mX3_rebuild : aM := (yX3_rebuild, cX3_rebuild, 3, none, [], 5, 111, 0, 0)
abbrev mX3_changedWithout : aM := (yX3_changedWithout, cX3_changedWithout, 3, (some .int), [], 5, 111, 0, 0)
abbrev mX3_countChanged : aM := (yX3_countChanged, cX3_countChanged, 3, (some .int), [], 0, 0, 0, 0)
abbrev mX3_countForced : aM := (yX3_countForced, cX3_countForced, 4, (some .int), [], 3, 62, 0, 0)
abbrev mX3_draw : aM := (yX3_draw, cX3_draw, 7, none, [], 4, 85, 0, 0)
abbrev mX3_hasTurn : aM := (yX3_hasTurn, cX3_hasTurn, 3, (some .boolean), [], 0, 0, 0, 0)
abbrev mX3_claim : aM := (yX3_claim, cX3_claim, 5, (some .boolean), [], 2, 46, 0, 0)
abbrev mX4_init : aM := (yX4_init, cX4_init, 1, none, [], 2, 40, 8, 59)
abbrev mX4_take : aM := (yX4_take, cX4_take, 3, none, [], 1, 22, 0, 0)
abbrev mX4_give : aM := (yX4_give, cX4_give, 3, none, [], 1, 22, 0, 0)
abbrev mX5_init : aM := (yX5_init, cX5_init, 1, none, [], 1, 20, 3, 24)
abbrev mX5_clear : aM := (yX5_clear, cX5_clear, 1, none, [], 0, 0, 0, 0)
abbrev mX5_size : aM := (yX5_size, cX5_size, 1, (some .int), [], 0, 0, 0, 0)
abbrev mX5_has : aM := (yX5_has, cX5_has, 2, (some .boolean), [], 0, 0, 0, 0)
abbrev mX5_key : aM := (yX5_key, cX5_key, 2, (some .int), [], 1, 21, 0, 0)
abbrev mX5_counted : aM := (yX5_counted, cX5_counted, 2, (some .long), [], 1, 21, 0, 0)
abbrev mX5_error : aM := (yX5_error, cX5_error, 2, (some .long), [], 1, 21, 0, 0)
abbrev mX5_count : aM := (yX5_count, cX5_count, 4, none, [], 4, 90, 0, 0)
abbrev mX5_find : aM := (yX5_find, cX5_find, 3, (some .int), [], 0, 0, 0, 0)
abbrev mX5_append : aM := (yX5_append, cX5_append, 3, (some .int), [], 0, 0, 0, 0)
abbrev mX5_replaceLeast : aM := (yX5_replaceLeast, cX5_replaceLeast, 3, (some .int), [], 3, 63, 0, 0)
abbrev mX5_least : aM := (yX5_least, cX5_least, 2, (some .int), [], 2, 42, 0, 0)
abbrev mX5_moveForward : aM := (yX5_moveForward, cX5_moveForward, 3, none, [], 3, 68, 0, 0)
abbrev mX5_isListedBefore : aM := (yX5_isListedBefore, cX5_isListedBefore, 7, (some .boolean), [], 2, 42, 0, 0)
abbrev mX5_swap : aM := (yX5_swap, cX5_swap, 8, none, [], 1, 21, 0, 0)
abbrev mX6_init : aM := (yX6_init, cX6_init, 1, none, [], 4, 81, 54, 475)
abbrev mX6_reset : aM := (yX6_reset, cX6_reset, 3, (some .int), [], 6, 90, 1, 6)
abbrev mX6_serverAt : aM := (yX6_serverAt, cX6_serverAt, 2, (some .int), [], 6, 90, 1, 6)
abbrev mX6_disruption : aM := (yX6_disruption, cX6_disruption, 1, (some .int), [], 1, 20, 0, 0)
abbrev mX6_forcedDisruption : aM := (yX6_forcedDisruption, cX6_forcedDisruption, 1, (some .int), [], 1, 20, 0, 0)
abbrev mX6_imbalance : aM := (yX6_imbalance, cX6_imbalance, 8, (some .double), [], 5, 106, 0, 0)
abbrev mX6_addServer : aM := (yX6_addServer, cX6_addServer, 4, (some .int), [], 7, 133, 4, 24)
abbrev mX6_removeServer : aM := (yX6_removeServer, cX6_removeServer, 4, (some .long), [], 7, 133, 1, 6)
abbrev mX6_setWeight : aM := (yX6_setWeight, cX6_setWeight, 4, (some .int), [], 7, 133, 2, 12)
abbrev mX6_setUp : aM := (yX6_setUp, cX6_setUp, 4, (some .boolean), [], 7, 133, 1, 6)
abbrev mX6_serverCount : aM := (yX6_serverCount, cX6_serverCount, 1, (some .int), [], 3, 63, 0, 0)
abbrev mX6_serverNamed : aM := (yX6_serverNamed, cX6_serverNamed, 2, (some .int), [], 7, 110, 1, 6)
abbrev mX6_preference : aM := (yX6_preference, cX6_preference, 3, (some .int), [], 7, 111, 2, 12)
abbrev mX6_slotsOf : aM := (yX6_slotsOf, cX6_slotsOf, 2, (some .int), [], 7, 111, 1, 6)
abbrev mX6_idealShare : aM := (yX6_idealShare, cX6_idealShare, 2, (some .double), [], 7, 111, 1, 6)
abbrev mX6_removalDisruption : aM := (yX6_removalDisruption, cX6_removalDisruption, 2, (some .int), [], 7, 133, 1, 6)
abbrev mX6_serverOf : aM := (yX6_serverOf, cX6_serverOf, 2, (some .int), [], 7, 110, 1, 6)
abbrev mX6_request : aM := (yX6_request, cX6_request, 4, (some .int), [], 7, 113, 2, 12)
abbrev mX6_loadOf : aM := (yX6_loadOf, cX6_loadOf, 2, (some .long), [], 7, 111, 1, 6)
abbrev mX6_rankedServer : aM := (yX6_rankedServer, cX6_rankedServer, 2, (some .int), [], 6, 133, 1, 6)
abbrev mX6_pin : aM := (yX6_pin, cX6_pin, 3, (some .int), [], 7, 111, 3, 18)
abbrev mX6_unpin : aM := (yX6_unpin, cX6_unpin, 3, (some .int), [], 7, 110, 1, 6)
abbrev mX6_pinHottest : aM := (yX6_pinHottest, cX6_pinHottest, 4, (some .int), [], 7, 133, 3, 18)
abbrev mX6_trackedKeys : aM := (yX6_trackedKeys, cX6_trackedKeys, 1, (some .int), [], 1, 20, 0, 0)
abbrev mX6_hotKey : aM := (yX6_hotKey, cX6_hotKey, 2, (some .int), [], 7, 111, 1, 6)
abbrev mX6_hotCount : aM := (yX6_hotCount, cX6_hotCount, 2, (some .long), [], 7, 111, 1, 6)
abbrev mX6_hotError : aM := (yX6_hotError, cX6_hotError, 2, (some .long), [], 7, 111, 1, 6)
abbrev mX6_undo : aM := (yX6_undo, cX6_undo, 1, (some .int), [], 6, 133, 1, 6)
abbrev mX6_isSlotCount : aM := (yX6_isSlotCount, cX6_isSlotCount, 5, (some .boolean), [], 0, 0, 0, 0)
abbrev mX6_checkName : aM := (yX6_checkName, cX6_checkName, 1, none, [], 6, 90, 1, 6)
abbrev mX6_checkWeight : aM := (yX6_checkWeight, cX6_checkWeight, 1, none, [], 6, 90, 1, 6)
abbrev mX6_checkKey : aM := (yX6_checkKey, cX6_checkKey, 1, none, [], 6, 90, 1, 6)
abbrev mX6_checkServer : aM := (yX6_checkServer, cX6_checkServer, 2, none, [], 6, 90, 1, 6)
abbrev mX6_checkEntry : aM := (yX6_checkEntry, cX6_checkEntry, 2, none, [], 6, 90, 1, 6)
abbrev mX6_checkRoomForPin : aM := (yX6_checkRoomForPin, cX6_checkRoomForPin, 2, none, [], 6, 90, 1, 6)
abbrev mX6_shareOf : aM := (yX6_shareOf, cX6_shareOf, 3, (some .double), [], 4, 84, 0, 0)
abbrev mX6_lookUp : aM := (yX6_lookUp, cX6_lookUp, 3, (some .int), [], 3, 62, 0, 0)
abbrev mX6_remainder : aM := (yX6_remainder, cX6_remainder, 3, (some .int), [], 0, 0, 0, 0)
abbrev mX7_init : aM := (yX7_init, cX7_init, 1, none, [], 1, 22, 18, 410)
abbrev mX7_thrown : aM := (yX7_thrown, cX7_thrown, 1, (some .int), [], 0, 0, 0, 0)
abbrev mX7_in : aM := (yX7_in, cX7_in, 6, (some .boolean), [], 0, 0, 0, 0)
abbrev mX7_isRefused : aM := (yX7_isRefused, cX7_isRefused, 3, (some .boolean), [], 0, 0, 0, 0)
abbrev mX7_begins : aM := (yX7_begins, cX7_begins, 3, none, [], 0, 0, 0, 0)
abbrev mX7_noServer : aM := (yX7_noServer, cX7_noServer, 2, (some .boolean), [], 1, 25, 0, 0)
abbrev mX7_noKey : aM := (yX7_noKey, cX7_noKey, 1, (some .boolean), [], 1, 25, 0, 0)
abbrev mX7_preferred : aM := (yX7_preferred, cX7_preferred, 5, (some .int), [], 0, 0, 0, 0)
abbrev mX7_takes : aM := (yX7_takes, cX7_takes, 3, none, [], 1, 24, 0, 0)
abbrev mX7_builds : aM := (yX7_builds, cX7_builds, 5, none, [], 2, 46, 0, 0)
abbrev mX7_remembers : aM := (yX7_remembers, cX7_remembers, 2, none, [], 0, 0, 0, 0)
abbrev mX7_differing : aM := (yX7_differing, cX7_differing, 3, (some .int), [], 0, 0, 0, 0)
abbrev mX7_comesAnew : aM := (yX7_comesAnew, cX7_comesAnew, 2, none, [], 3, 70, 0, 0)
abbrev mX7_isPrime : aM := (yX7_isPrime, cX7_isPrime, 3, (some .boolean), [], 0, 0, 0, 0)
abbrev mX7_reset : aM := (yX7_reset, cX7_reset, 3, (some .int), [], 1, 25, 0, 0)
abbrev mX7_serverAt : aM := (yX7_serverAt, cX7_serverAt, 2, (some .int), [], 1, 25, 0, 0)
abbrev mX7_disruption : aM := (yX7_disruption, cX7_disruption, 1, (some .int), [], 0, 0, 0, 0)
abbrev mX7_forcedDisruption : aM := (yX7_forcedDisruption, cX7_forcedDisruption, 1, (some .int), [], 0, 0, 0, 0)
abbrev mX7_slotsNow : aM := (yX7_slotsNow, cX7_slotsNow, 4, (some .int), [], 0, 0, 0, 0)
abbrev mX7_ideal : aM := (yX7_ideal, cX7_ideal, 4, (some .double), [], 0, 0, 0, 0)
abbrev mX7_imbalance : aM := (yX7_imbalance, cX7_imbalance, 6, (some .double), [], 1, 23, 0, 0)
abbrev mX7_keeps : aM := (yX7_keeps, cX7_keeps, 2, none, [], 0, 0, 0, 0)
abbrev mX7_undo : aM := (yX7_undo, cX7_undo, 2, (some .int), [], 4, 91, 0, 0)
abbrev mX7_named : aM := (yX7_named, cX7_named, 3, (some .int), [], 0, 0, 0, 0)
abbrev mX7_noName : aM := (yX7_noName, cX7_noName, 1, (some .boolean), [], 1, 25, 0, 0)
abbrev mX7_noWeight : aM := (yX7_noWeight, cX7_noWeight, 1, (some .boolean), [], 1, 25, 0, 0)
abbrev mX7_count : aM := (yX7_count, cX7_count, 3, (some .int), [], 0, 0, 0, 0)
abbrev mX7_addServer : aM := (yX7_addServer, cX7_addServer, 4, (some .int), [], 4, 91, 0, 0)
abbrev mX7_removeServer : aM := (yX7_removeServer, cX7_removeServer, 4, (some .long), [], 4, 91, 0, 0)
abbrev mX7_setWeight : aM := (yX7_setWeight, cX7_setWeight, 4, (some .int), [], 4, 91, 0, 0)
abbrev mX7_setUp : aM := (yX7_setUp, cX7_setUp, 4, (some .boolean), [], 4, 91, 0, 0)
abbrev mX7_serverCount : aM := (yX7_serverCount, cX7_serverCount, 1, (some .int), [], 1, 22, 0, 0)
abbrev mX7_serverNamed : aM := (yX7_serverNamed, cX7_serverNamed, 2, (some .int), [], 2, 45, 0, 0)
abbrev mX7_preference : aM := (yX7_preference, cX7_preference, 3, (some .int), [], 2, 46, 0, 0)
abbrev mX7_slotsOf : aM := (yX7_slotsOf, cX7_slotsOf, 2, (some .int), [], 2, 46, 0, 0)
abbrev mX7_idealShare : aM := (yX7_idealShare, cX7_idealShare, 2, (some .double), [], 2, 46, 0, 0)
abbrev mX7_removalDisruption : aM := (yX7_removalDisruption, cX7_removalDisruption, 4, (some .int), [], 3, 70, 0, 0)
abbrev mX7_pinOf : aM := (yX7_pinOf, cX7_pinOf, 3, (some .int), [], 0, 0, 0, 0)
abbrev mX7_at : aM := (yX7_at, cX7_at, 3, (some .int), [], 1, 22, 0, 0)
abbrev mX7_serverOf : aM := (yX7_serverOf, cX7_serverOf, 2, (some .int), [], 2, 45, 0, 0)
abbrev mX7_tracks : aM := (yX7_tracks, cX7_tracks, 6, none, [], 0, 0, 0, 0)
abbrev mX7_request : aM := (yX7_request, cX7_request, 4, (some .int), [], 2, 45, 0, 0)
abbrev mX7_loadOf : aM := (yX7_loadOf, cX7_loadOf, 2, (some .long), [], 2, 46, 0, 0)
abbrev mX7_ranked : aM := (yX7_ranked, cX7_ranked, 9, (some .int), [], 0, 0, 0, 0)
abbrev mX7_ups : aM := (yX7_ups, cX7_ups, 3, (some .int), [], 0, 0, 0, 0)
abbrev mX7_rankedServer : aM := (yX7_rankedServer, cX7_rankedServer, 2, (some .int), [], 1, 28, 0, 0)
abbrev mX7_pinsTo : aM := (yX7_pinsTo, cX7_pinsTo, 4, (some .int), [], 1, 22, 0, 0)
abbrev mX7_noRoom : aM := (yX7_noRoom, cX7_noRoom, 2, (some .boolean), [], 1, 22, 0, 0)
abbrev mX7_pin : aM := (yX7_pin, cX7_pin, 3, (some .int), [], 2, 46, 0, 0)
abbrev mX7_unpin : aM := (yX7_unpin, cX7_unpin, 4, (some .int), [], 2, 45, 0, 0)
abbrev mX7_listed : aM := (yX7_listed, cX7_listed, 5, (some .int), [], 0, 0, 0, 0)
abbrev mX7_pinHottest : aM := (yX7_pinHottest, cX7_pinHottest, 3, (some .int), [], 2, 45, 0, 0)
abbrev mX7_trackedKeys : aM := (yX7_trackedKeys, cX7_trackedKeys, 1, (some .int), [], 0, 0, 0, 0)
abbrev mX7_noEntry : aM := (yX7_noEntry, cX7_noEntry, 2, (some .boolean), [], 1, 25, 0, 0)
abbrev mX7_hotKey : aM := (yX7_hotKey, cX7_hotKey, 2, (some .int), [], 2, 46, 0, 0)
abbrev mX7_hotCount : aM := (yX7_hotCount, cX7_hotCount, 2, (some .long), [], 2, 46, 0, 0)
abbrev mX7_hotError : aM := (yX7_hotError, cX7_hotError, 2, (some .long), [], 2, 46, 0, 0)
abbrev mJ9_max_7cf53 : aM := (yJ9_max_7cf53, cJ9_max_7cf53, 2, (some .int), [], 0, 0, 0, 0)
abbrev mJ9_min_7cf53 : aM := (yJ9_min_7cf53, cJ9_min_7cf53, 2, (some .int), [], 0, 0, 0, 0)
abbrev mJ7_fill_53178 : aM := (yJ7_fill_53178, cJ7_fill_53178, 4, none, [], 0, 0, 0, 0)
abbrev mL_reset : aM := (yL_reset, cL_reset, 4, (some .int), [(0, 9, 12, 13)], 7, 112, 1, 6)
abbrev mL_serverAt : aM := (yL_serverAt, cL_serverAt, 4, (some .int), [(0, 9, 12, 13)], 7, 111, 1, 6)
abbrev mL_addServer : aM := (yL_addServer, cL_addServer, 5, (some .int), [(0, 10, 13, 13), (0, 10, 17, 22)], 8, 156, 4, 24)
abbrev mL_removeServer : aM := (yL_removeServer, cL_removeServer, 4, (some .int), [(0, 8, 11, 13)], 8, 156, 1, 6)
abbrev mL_setWeight : aM := (yL_setWeight, cL_setWeight, 5, (some .int), [(0, 10, 13, 13)], 8, 156, 2, 12)
abbrev mL_setUp : aM := (yL_setUp, cL_setUp, 5, (some .int), [(0, 17, 20, 13)], 8, 156, 1, 6)
abbrev mL_serverNamed : aM := (yL_serverNamed, cL_serverNamed, 4, (some .int), [(0, 9, 12, 13)], 8, 131, 1, 6)
abbrev mL_preference : aM := (yL_preference, cL_preference, 5, (some .int), [(0, 10, 13, 13)], 8, 133, 2, 12)
abbrev mL_slotsOf : aM := (yL_slotsOf, cL_slotsOf, 4, (some .int), [(0, 9, 12, 13)], 8, 132, 1, 6)
abbrev mL_idealShare : aM := (yL_idealShare, cL_idealShare, 4, (some .int), [(0, 8, 11, 13)], 8, 132, 1, 6)
abbrev mL_removalDisruption : aM := (yL_removalDisruption, cL_removalDisruption, 4, (some .int), [(0, 9, 12, 13)], 8, 154, 1, 6)
abbrev mL_serverOf : aM := (yL_serverOf, cL_serverOf, 4, (some .int), [(0, 9, 12, 13)], 8, 131, 1, 6)
abbrev mL_request : aM := (yL_request, cL_request, 5, (some .int), [(0, 10, 13, 13)], 8, 136, 2, 12)
abbrev mL_loadOf : aM := (yL_loadOf, cL_loadOf, 4, (some .int), [(0, 8, 11, 13)], 8, 132, 1, 6)
abbrev mL_rankedServer : aM := (yL_rankedServer, cL_rankedServer, 4, (some .int), [(0, 9, 12, 63)], 7, 154, 1, 6)
abbrev mL_pin : aM := (yL_pin, cL_pin, 5, (some .int), [(0, 10, 13, 13), (0, 10, 17, 22)], 8, 133, 3, 18)
abbrev mL_unpin : aM := (yL_unpin, cL_unpin, 4, (some .int), [(0, 9, 12, 13)], 8, 132, 1, 6)
abbrev mL_pinHottest : aM := (yL_pinHottest, cL_pinHottest, 3, (some .int), [(0, 8, 11, 22)], 8, 156, 3, 18)
abbrev mL_hotKey : aM := (yL_hotKey, cL_hotKey, 4, (some .int), [(0, 9, 12, 63)], 8, 132, 1, 6)
abbrev mL_hotCount : aM := (yL_hotCount, cL_hotCount, 4, (some .int), [(0, 8, 11, 63)], 8, 132, 1, 6)
abbrev mL_hotError : aM := (yL_hotError, cL_hotError, 4, (some .int), [(0, 8, 11, 63)], 8, 132, 1, 6)
abbrev mL_undo : aM := (yL_undo, cL_undo, 3, (some .int), [(0, 8, 11, 22)], 7, 153, 1, 6)
theorem cd_X0_init : aQ (aCd mX0_init) := aQ.at 72 (by decide +kernel) (by decide +kernel)
theorem cd_X0_clear : aQ (aCd mX0_clear) := aQ.at 359 (by decide +kernel) (by decide +kernel)
theorem cd_X0_copyFrom : aQ (aCd mX0_copyFrom) := aQ.at 444 (by decide +kernel) (by decide +kernel)
theorem cd_X0_isNumber : aQ (aCd mX0_isNumber) := aQ.at 245 (by decide +kernel) (by decide +kernel)
theorem cd_X0_has : aQ (aCd mX0_has) := aQ.at 242 (by decide +kernel) (by decide +kernel)
theorem cd_X0_isUp : aQ (aCd mX0_isUp) := aQ.at 238 (by decide +kernel) (by decide +kernel)
theorem cd_X0_name : aQ (aCd mX0_name) := aQ.at 477 (by decide +kernel) (by decide +kernel)
theorem cd_X0_weight : aQ (aCd mX0_weight) := aQ.at 254 (by decide +kernel) (by decide +kernel)
theorem cd_X0_load : aQ (aCd mX0_load) := aQ.at 513 (by decide +kernel) (by decide +kernel)
theorem cd_X0_put : aQ (aCd mX0_put) := aQ.at 453 (by decide +kernel) (by decide +kernel)
theorem cd_X0_drop : aQ (aCd mX0_drop) := aQ.at 517 (by decide +kernel) (by decide +kernel)
theorem cd_X0_changeWeight : aQ (aCd mX0_changeWeight) := aQ.at 536 (by decide +kernel) (by decide +kernel)
theorem cd_X0_changeUp : aQ (aCd mX0_changeUp) := aQ.at 547 (by decide +kernel) (by decide +kernel)
theorem cd_X0_addLoad : aQ (aCd mX0_addLoad) := aQ.at 629 (by decide +kernel) (by decide +kernel)
theorem cd_X0_size : aQ (aCd mX0_size) := aQ.at 266 (by decide +kernel) (by decide +kernel)
theorem cd_X0_upCount : aQ (aCd mX0_upCount) := aQ.at 692 (by decide +kernel) (by decide +kernel)
theorem cd_X0_find : aQ (aCd mX0_find) := aQ.at 410 (by decide +kernel) (by decide +kernel)
theorem cd_X0_lowestFree : aQ (aCd mX0_lowestFree) := aQ.at 430 (by decide +kernel) (by decide +kernel)
theorem cd_X0_weightSum : aQ (aCd mX0_weightSum) := aQ.at 234 (by decide +kernel) (by decide +kernel)
theorem cd_X0_greatestWeightWithout : aQ (aCd mX0_greatestWeightWithout) := aQ.at 465 (by decide +kernel) (by decide +kernel)
theorem cd_X0_ranked : aQ (aCd mX0_ranked) := aQ.at 712 (by decide +kernel) (by decide +kernel)
theorem cd_X0_countBefore : aQ (aCd mX0_countBefore) := aQ.at 716 (by decide +kernel) (by decide +kernel)
theorem cd_X0_ranksBefore : aQ (aCd mX0_ranksBefore) := aQ.at 720 (by decide +kernel) (by decide +kernel)
theorem cd_X1_init : aQ (aCd mX1_init) := aQ.at 164 (by decide +kernel) (by decide +kernel)
theorem cd_X1_clear : aQ (aCd mX1_clear) := aQ.at 372 (by decide +kernel) (by decide +kernel)
theorem cd_X1_size : aQ (aCd mX1_size) := aQ.at 807 (by decide +kernel) (by decide +kernel)
theorem cd_X1_remember : aQ (aCd mX1_remember) := aQ.at 436 (by decide +kernel) (by decide +kernel)
theorem cd_X1_bringBack : aQ (aCd mX1_bringBack) := aQ.at 812 (by decide +kernel) (by decide +kernel)
theorem cd_X2_init : aQ (aCd mX2_init) := aQ.at 94 (by decide +kernel) (by decide +kernel)
theorem cd_X2_clear : aQ (aCd mX2_clear) := aQ.at 364 (by decide +kernel) (by decide +kernel)
theorem cd_X2_copyFrom : aQ (aCd mX2_copyFrom) := aQ.at 448 (by decide +kernel) (by decide +kernel)
theorem cd_X2_size : aQ (aCd mX2_size) := aQ.at 737 (by decide +kernel) (by decide +kernel)
theorem cd_X2_server : aQ (aCd mX2_server) := aQ.at 609 (by decide +kernel) (by decide +kernel)
theorem cd_X2_put : aQ (aCd mX2_put) := aQ.at 742 (by decide +kernel) (by decide +kernel)
theorem cd_X2_drop : aQ (aCd mX2_drop) := aQ.at 746 (by decide +kernel) (by decide +kernel)
theorem cd_X2_dropServer : aQ (aCd mX2_dropServer) := aQ.at 521 (by decide +kernel) (by decide +kernel)
theorem cd_X2_append : aQ (aCd mX2_append) := aQ.at 525 (by decide +kernel) (by decide +kernel)
theorem cd_X3_init : aQ (aCd mX3_init) := aQ.at 110 (by decide +kernel) (by decide +kernel)
theorem cd_X3_startAnew : aQ (aCd mX3_startAnew) := aQ.at 115 (by decide +kernel) (by decide +kernel)
theorem cd_X3_size : aQ (aCd mX3_size) := aQ.at 250 (by decide +kernel) (by decide +kernel)
theorem cd_X3_isSlot : aQ (aCd mX3_isSlot) := aQ.at 384 (by decide +kernel) (by decide +kernel)
theorem cd_X3_owner : aQ (aCd mX3_owner) := aQ.at 389 (by decide +kernel) (by decide +kernel)
theorem cd_X3_changedSlots : aQ (aCd mX3_changedSlots) := aQ.at 214 (by decide +kernel) (by decide +kernel)
theorem cd_X3_forcedSlots : aQ (aCd mX3_forcedSlots) := aQ.at 222 (by decide +kernel) (by decide +kernel)
theorem cd_X3_ownedBy : aQ (aCd mX3_ownedBy) := aQ.at 258 (by decide +kernel) (by decide +kernel)
theorem cd_X3_slotOfKey : aQ (aCd mX3_slotOfKey) := aQ.at 613 (by decide +kernel) (by decide +kernel)
theorem cd_X3_preferredSlot : aQ (aCd mX3_preferredSlot) := aQ.at 485 (by decide +kernel) (by decide +kernel)
theorem cd_X3_rebuild : aQ (aCd mX3_rebuild) := aQ.at 457 (by decide +kernel) (by decide +kernel)
theorem cd_X3_changedWithout : aQ (aCd mX3_changedWithout) := aQ.at 589 (by decide +kernel) (by decide +kernel)
theorem cd_X3_countChanged : aQ (aCd mX3_countChanged) := aQ.at 492 (by decide +kernel) (by decide +kernel)
theorem cd_X3_countForced : aQ (aCd mX3_countForced) := aQ.at 496 (by decide +kernel) (by decide +kernel)
theorem cd_X3_draw : aQ (aCd mX3_draw) := aQ.at 461 (by decide +kernel) (by decide +kernel)
theorem cd_X3_hasTurn : aQ (aCd mX3_hasTurn) := aQ.at 473 (by decide +kernel) (by decide +kernel)
theorem cd_X3_claim : aQ (aCd mX3_claim) := aQ.at 481 (by decide +kernel) (by decide +kernel)
theorem cd_X4_init : aQ (aCd mX4_init) := aQ.at 171 (by decide +kernel) (by decide +kernel)
theorem cd_X4_take : aQ (aCd mX4_take) := aQ.at 440 (by decide +kernel) (by decide +kernel)
theorem cd_X4_give : aQ (aCd mX4_give) := aQ.at 816 (by decide +kernel) (by decide +kernel)
theorem cd_X5_init : aQ (aCd mX5_init) := aQ.at 145 (by decide +kernel) (by decide +kernel)
theorem cd_X5_clear : aQ (aCd mX5_clear) := aQ.at 368 (by decide +kernel) (by decide +kernel)
theorem cd_X5_size : aQ (aCd mX5_size) := aQ.at 274 (by decide +kernel) (by decide +kernel)
theorem cd_X5_has : aQ (aCd mX5_has) := aQ.at 657 (by decide +kernel) (by decide +kernel)
theorem cd_X5_key : aQ (aCd mX5_key) := aQ.at 669 (by decide +kernel) (by decide +kernel)
theorem cd_X5_counted : aQ (aCd mX5_counted) := aQ.at 653 (by decide +kernel) (by decide +kernel)
theorem cd_X5_error : aQ (aCd mX5_error) := aQ.at 796 (by decide +kernel) (by decide +kernel)
theorem cd_X5_count : aQ (aCd mX5_count) := aQ.at 633 (by decide +kernel) (by decide +kernel)
theorem cd_X5_find : aQ (aCd mX5_find) := aQ.at 637 (by decide +kernel) (by decide +kernel)
theorem cd_X5_append : aQ (aCd mX5_append) := aQ.at 641 (by decide +kernel) (by decide +kernel)
theorem cd_X5_replaceLeast : aQ (aCd mX5_replaceLeast) := aQ.at 645 (by decide +kernel) (by decide +kernel)
theorem cd_X5_least : aQ (aCd mX5_least) := aQ.at 649 (by decide +kernel) (by decide +kernel)
theorem cd_X5_moveForward : aQ (aCd mX5_moveForward) := aQ.at 661 (by decide +kernel) (by decide +kernel)
theorem cd_X5_isListedBefore : aQ (aCd mX5_isListedBefore) := aQ.at 665 (by decide +kernel) (by decide +kernel)
theorem cd_X5_swap : aQ (aCd mX5_swap) := aQ.at 673 (by decide +kernel) (by decide +kernel)
theorem cd_X6_init : aQ (aCd mX6_init) := aQ.at 64 (by decide +kernel) (by decide +kernel)
theorem cd_X6_reset : aQ (aCd mX6_reset) := aQ.at 282 (by decide +kernel) (by decide +kernel)
theorem cd_X6_serverAt : aQ (aCd mX6_serverAt) := aQ.at 380 (by decide +kernel) (by decide +kernel)
theorem cd_X6_disruption : aQ (aCd mX6_disruption) := aQ.at 210 (by decide +kernel) (by decide +kernel)
theorem cd_X6_forcedDisruption : aQ (aCd mX6_forcedDisruption) := aQ.at 218 (by decide +kernel) (by decide +kernel)
theorem cd_X6_imbalance : aQ (aCd mX6_imbalance) := aQ.at 226 (by decide +kernel) (by decide +kernel)
theorem cd_X6_addServer : aQ (aCd mX6_addServer) := aQ.at 398 (by decide +kernel) (by decide +kernel)
theorem cd_X6_removeServer : aQ (aCd mX6_removeServer) := aQ.at 503 (by decide +kernel) (by decide +kernel)
theorem cd_X6_setWeight : aQ (aCd mX6_setWeight) := aQ.at 532 (by decide +kernel) (by decide +kernel)
theorem cd_X6_setUp : aQ (aCd mX6_setUp) := aQ.at 543 (by decide +kernel) (by decide +kernel)
theorem cd_X6_serverCount : aQ (aCd mX6_serverCount) := aQ.at 262 (by decide +kernel) (by decide +kernel)
theorem cd_X6_serverNamed : aQ (aCd mX6_serverNamed) := aQ.at 554 (by decide +kernel) (by decide +kernel)
theorem cd_X6_preference : aQ (aCd mX6_preference) := aQ.at 561 (by decide +kernel) (by decide +kernel)
theorem cd_X6_slotsOf : aQ (aCd mX6_slotsOf) := aQ.at 571 (by decide +kernel) (by decide +kernel)
theorem cd_X6_idealShare : aQ (aCd mX6_idealShare) := aQ.at 578 (by decide +kernel) (by decide +kernel)
theorem cd_X6_removalDisruption : aQ (aCd mX6_removalDisruption) := aQ.at 585 (by decide +kernel) (by decide +kernel)
theorem cd_X6_serverOf : aQ (aCd mX6_serverOf) := aQ.at 596 (by decide +kernel) (by decide +kernel)
theorem cd_X6_request : aQ (aCd mX6_request) := aQ.at 623 (by decide +kernel) (by decide +kernel)
theorem cd_X6_loadOf : aQ (aCd mX6_loadOf) := aQ.at 680 (by decide +kernel) (by decide +kernel)
theorem cd_X6_rankedServer : aQ (aCd mX6_rankedServer) := aQ.at 688 (by decide +kernel) (by decide +kernel)
theorem cd_X6_pin : aQ (aCd mX6_pin) := aQ.at 729 (by decide +kernel) (by decide +kernel)
theorem cd_X6_unpin : aQ (aCd mX6_unpin) := aQ.at 753 (by decide +kernel) (by decide +kernel)
theorem cd_X6_pinHottest : aQ (aCd mX6_pinHottest) := aQ.at 761 (by decide +kernel) (by decide +kernel)
theorem cd_X6_trackedKeys : aQ (aCd mX6_trackedKeys) := aQ.at 270 (by decide +kernel) (by decide +kernel)
theorem cd_X6_hotKey : aQ (aCd mX6_hotKey) := aQ.at 771 (by decide +kernel) (by decide +kernel)
theorem cd_X6_hotCount : aQ (aCd mX6_hotCount) := aQ.at 784 (by decide +kernel) (by decide +kernel)
theorem cd_X6_hotError : aQ (aCd mX6_hotError) := aQ.at 792 (by decide +kernel) (by decide +kernel)
theorem cd_X6_undo : aQ (aCd mX6_undo) := aQ.at 803 (by decide +kernel) (by decide +kernel)
theorem cd_X6_isSlotCount : aQ (aCd mX6_isSlotCount) := aQ.at 285 (by decide +kernel) (by decide +kernel)
theorem cd_X6_checkName : aQ (aCd mX6_checkName) := aQ.at 401 (by decide +kernel) (by decide +kernel)
theorem cd_X6_checkWeight : aQ (aCd mX6_checkWeight) := aQ.at 405 (by decide +kernel) (by decide +kernel)
theorem cd_X6_checkKey : aQ (aCd mX6_checkKey) := aQ.at 599 (by decide +kernel) (by decide +kernel)
theorem cd_X6_checkServer : aQ (aCd mX6_checkServer) := aQ.at 507 (by decide +kernel) (by decide +kernel)
theorem cd_X6_checkEntry : aQ (aCd mX6_checkEntry) := aQ.at 775 (by decide +kernel) (by decide +kernel)
theorem cd_X6_checkRoomForPin : aQ (aCd mX6_checkRoomForPin) := aQ.at 733 (by decide +kernel) (by decide +kernel)
theorem cd_X6_shareOf : aQ (aCd mX6_shareOf) := aQ.at 230 (by decide +kernel) (by decide +kernel)
theorem cd_X6_lookUp : aQ (aCd mX6_lookUp) := aQ.at 605 (by decide +kernel) (by decide +kernel)
theorem cd_X6_remainder : aQ (aCd mX6_remainder) := aQ.at 488 (by decide +kernel) (by decide +kernel)
theorem cd_X7_init : aQ (aCd mX7_init) := aQ.at 822 (by decide +kernel) (by decide +kernel)
theorem cd_X7_thrown : aQ (aCd mX7_thrown) := aQ.at 907 (by decide +kernel) (by decide +kernel)
theorem cd_X7_in : aQ (aCd mX7_in) := aQ.at 916 (by decide +kernel) (by decide +kernel)
theorem cd_X7_isRefused : aQ (aCd mX7_isRefused) := aQ.at 923 (by decide +kernel) (by decide +kernel)
theorem cd_X7_begins : aQ (aCd mX7_begins) := aQ.at 827 (by decide +kernel) (by decide +kernel)
theorem cd_X7_noServer : aQ (aCd mX7_noServer) := aQ.at 1007 (by decide +kernel) (by decide +kernel)
theorem cd_X7_noKey : aQ (aCd mX7_noKey) := aQ.at 1047 (by decide +kernel) (by decide +kernel)
theorem cd_X7_preferred : aQ (aCd mX7_preferred) := aQ.at 971 (by decide +kernel) (by decide +kernel)
theorem cd_X7_takes : aQ (aCd mX7_takes) := aQ.at 967 (by decide +kernel) (by decide +kernel)
theorem cd_X7_builds : aQ (aCd mX7_builds) := aQ.at 963 (by decide +kernel) (by decide +kernel)
theorem cd_X7_remembers : aQ (aCd mX7_remembers) := aQ.at 959 (by decide +kernel) (by decide +kernel)
theorem cd_X7_differing : aQ (aCd mX7_differing) := aQ.at 975 (by decide +kernel) (by decide +kernel)
theorem cd_X7_comesAnew : aQ (aCd mX7_comesAnew) := aQ.at 955 (by decide +kernel) (by decide +kernel)
theorem cd_X7_isPrime : aQ (aCd mX7_isPrime) := aQ.at 919 (by decide +kernel) (by decide +kernel)
theorem cd_X7_reset : aQ (aCd mX7_reset) := aQ.at 911 (by decide +kernel) (by decide +kernel)
theorem cd_X7_serverAt : aQ (aCd mX7_serverAt) := aQ.at 927 (by decide +kernel) (by decide +kernel)
theorem cd_X7_disruption : aQ (aCd mX7_disruption) := aQ.at 931 (by decide +kernel) (by decide +kernel)
theorem cd_X7_forcedDisruption : aQ (aCd mX7_forcedDisruption) := aQ.at 935 (by decide +kernel) (by decide +kernel)
theorem cd_X7_slotsNow : aQ (aCd mX7_slotsNow) := aQ.at 943 (by decide +kernel) (by decide +kernel)
theorem cd_X7_ideal : aQ (aCd mX7_ideal) := aQ.at 947 (by decide +kernel) (by decide +kernel)
theorem cd_X7_imbalance : aQ (aCd mX7_imbalance) := aQ.at 939 (by decide +kernel) (by decide +kernel)
theorem cd_X7_keeps : aQ (aCd mX7_keeps) := aQ.at 999 (by decide +kernel) (by decide +kernel)
theorem cd_X7_undo : aQ (aCd mX7_undo) := aQ.at 951 (by decide +kernel) (by decide +kernel)
theorem cd_X7_named : aQ (aCd mX7_named) := aQ.at 991 (by decide +kernel) (by decide +kernel)
theorem cd_X7_noName : aQ (aCd mX7_noName) := aQ.at 982 (by decide +kernel) (by decide +kernel)
theorem cd_X7_noWeight : aQ (aCd mX7_noWeight) := aQ.at 986 (by decide +kernel) (by decide +kernel)
theorem cd_X7_count : aQ (aCd mX7_count) := aQ.at 995 (by decide +kernel) (by decide +kernel)
theorem cd_X7_addServer : aQ (aCd mX7_addServer) := aQ.at 979 (by decide +kernel) (by decide +kernel)
theorem cd_X7_removeServer : aQ (aCd mX7_removeServer) := aQ.at 1003 (by decide +kernel) (by decide +kernel)
theorem cd_X7_setWeight : aQ (aCd mX7_setWeight) := aQ.at 1012 (by decide +kernel) (by decide +kernel)
theorem cd_X7_setUp : aQ (aCd mX7_setUp) := aQ.at 1016 (by decide +kernel) (by decide +kernel)
theorem cd_X7_serverCount : aQ (aCd mX7_serverCount) := aQ.at 1020 (by decide +kernel) (by decide +kernel)
theorem cd_X7_serverNamed : aQ (aCd mX7_serverNamed) := aQ.at 1024 (by decide +kernel) (by decide +kernel)
theorem cd_X7_preference : aQ (aCd mX7_preference) := aQ.at 1028 (by decide +kernel) (by decide +kernel)
theorem cd_X7_slotsOf : aQ (aCd mX7_slotsOf) := aQ.at 1032 (by decide +kernel) (by decide +kernel)
theorem cd_X7_idealShare : aQ (aCd mX7_idealShare) := aQ.at 1036 (by decide +kernel) (by decide +kernel)
theorem cd_X7_removalDisruption : aQ (aCd mX7_removalDisruption) := aQ.at 1040 (by decide +kernel) (by decide +kernel)
theorem cd_X7_pinOf : aQ (aCd mX7_pinOf) := aQ.at 1056 (by decide +kernel) (by decide +kernel)
theorem cd_X7_at : aQ (aCd mX7_at) := aQ.at 1052 (by decide +kernel) (by decide +kernel)
theorem cd_X7_serverOf : aQ (aCd mX7_serverOf) := aQ.at 1044 (by decide +kernel) (by decide +kernel)
theorem cd_X7_tracks : aQ (aCd mX7_tracks) := aQ.at 1068 (by decide +kernel) (by decide +kernel)
theorem cd_X7_request : aQ (aCd mX7_request) := aQ.at 1063 (by decide +kernel) (by decide +kernel)
theorem cd_X7_loadOf : aQ (aCd mX7_loadOf) := aQ.at 1072 (by decide +kernel) (by decide +kernel)
theorem cd_X7_ranked : aQ (aCd mX7_ranked) := aQ.at 1084 (by decide +kernel) (by decide +kernel)
theorem cd_X7_ups : aQ (aCd mX7_ups) := aQ.at 1080 (by decide +kernel) (by decide +kernel)
theorem cd_X7_rankedServer : aQ (aCd mX7_rankedServer) := aQ.at 1076 (by decide +kernel) (by decide +kernel)
theorem cd_X7_pinsTo : aQ (aCd mX7_pinsTo) := aQ.at 1096 (by decide +kernel) (by decide +kernel)
theorem cd_X7_noRoom : aQ (aCd mX7_noRoom) := aQ.at 1092 (by decide +kernel) (by decide +kernel)
theorem cd_X7_pin : aQ (aCd mX7_pin) := aQ.at 1088 (by decide +kernel) (by decide +kernel)
theorem cd_X7_unpin : aQ (aCd mX7_unpin) := aQ.at 1100 (by decide +kernel) (by decide +kernel)
theorem cd_X7_listed : aQ (aCd mX7_listed) := aQ.at 1108 (by decide +kernel) (by decide +kernel)
theorem cd_X7_pinHottest : aQ (aCd mX7_pinHottest) := aQ.at 1104 (by decide +kernel) (by decide +kernel)
theorem cd_X7_trackedKeys : aQ (aCd mX7_trackedKeys) := aQ.at 1112 (by decide +kernel) (by decide +kernel)
theorem cd_X7_noEntry : aQ (aCd mX7_noEntry) := aQ.at 1120 (by decide +kernel) (by decide +kernel)
theorem cd_X7_hotKey : aQ (aCd mX7_hotKey) := aQ.at 1116 (by decide +kernel) (by decide +kernel)
theorem cd_X7_hotCount : aQ (aCd mX7_hotCount) := aQ.at 1124 (by decide +kernel) (by decide +kernel)
theorem cd_X7_hotError : aQ (aCd mX7_hotError) := aQ.at 1128 (by decide +kernel) (by decide +kernel)
theorem cd_J9_max_7cf53 : aQ (aCd mJ9_max_7cf53) := aQ.at 468 (by decide +kernel) (by decide +kernel)
theorem cd_J9_min_7cf53 : aQ (aCd mJ9_min_7cf53) := aQ.at 118 (by decide +kernel) (by decide +kernel)
theorem cd_J7_fill_53178 : aQ (aCd mJ7_fill_53178) := aQ.at 121 (by decide +kernel) (by decide +kernel)
theorem cd_L_reset : aQ (aCd mL_reset) := aQ.at 277 (by decide +kernel) (by decide +kernel)
theorem cd_L_serverAt : aQ (aCd mL_serverAt) := aQ.at 376 (by decide +kernel) (by decide +kernel)
theorem cd_L_addServer : aQ (aCd mL_addServer) := aQ.at 393 (by decide +kernel) (by decide +kernel)
theorem cd_L_removeServer : aQ (aCd mL_removeServer) := aQ.at 499 (by decide +kernel) (by decide +kernel)
theorem cd_L_setWeight : aQ (aCd mL_setWeight) := aQ.at 528 (by decide +kernel) (by decide +kernel)
theorem cd_L_setUp : aQ (aCd mL_setUp) := aQ.at 539 (by decide +kernel) (by decide +kernel)
theorem cd_L_serverNamed : aQ (aCd mL_serverNamed) := aQ.at 550 (by decide +kernel) (by decide +kernel)
theorem cd_L_preference : aQ (aCd mL_preference) := aQ.at 557 (by decide +kernel) (by decide +kernel)
theorem cd_L_slotsOf : aQ (aCd mL_slotsOf) := aQ.at 567 (by decide +kernel) (by decide +kernel)
theorem cd_L_idealShare : aQ (aCd mL_idealShare) := aQ.at 574 (by decide +kernel) (by decide +kernel)
theorem cd_L_removalDisruption : aQ (aCd mL_removalDisruption) := aQ.at 581 (by decide +kernel) (by decide +kernel)
theorem cd_L_serverOf : aQ (aCd mL_serverOf) := aQ.at 592 (by decide +kernel) (by decide +kernel)
theorem cd_L_request : aQ (aCd mL_request) := aQ.at 619 (by decide +kernel) (by decide +kernel)
theorem cd_L_loadOf : aQ (aCd mL_loadOf) := aQ.at 676 (by decide +kernel) (by decide +kernel)
theorem cd_L_rankedServer : aQ (aCd mL_rankedServer) := aQ.at 683 (by decide +kernel) (by decide +kernel)
theorem cd_L_pin : aQ (aCd mL_pin) := aQ.at 725 (by decide +kernel) (by decide +kernel)
theorem cd_L_unpin : aQ (aCd mL_unpin) := aQ.at 749 (by decide +kernel) (by decide +kernel)
theorem cd_L_pinHottest : aQ (aCd mL_pinHottest) := aQ.at 757 (by decide +kernel) (by decide +kernel)
theorem cd_L_hotKey : aQ (aCd mL_hotKey) := aQ.at 767 (by decide +kernel) (by decide +kernel)
theorem cd_L_hotCount : aQ (aCd mL_hotCount) := aQ.at 780 (by decide +kernel) (by decide +kernel)
theorem cd_L_hotError : aQ (aCd mL_hotError) := aQ.at 788 (by decide +kernel) (by decide +kernel)
theorem cd_L_undo : aQ (aCd mL_undo) := aQ.at 799 (by decide +kernel) (by decide +kernel)
theorem ini_L : aQ (.initialized "PreferenceTableLaw") := aQ.at 43 (by decide +kernel) (by decide +kernel)
theorem ini_X6 : aQ (.initialized "PreferenceTable") := aQ.at 44 (by decide +kernel) (by decide +kernel)
theorem ini_X0 : aQ (.initialized "PreferenceTable$Fleet") := aQ.at 45 (by decide +kernel) (by decide +kernel)
theorem ini_X2 : aQ (.initialized "PreferenceTable$Pins") := aQ.at 46 (by decide +kernel) (by decide +kernel)
theorem ini_X3 : aQ (.initialized "PreferenceTable$SlotTable") := aQ.at 47 (by decide +kernel) (by decide +kernel)
theorem ini_J9 : aQ (.initialized "java/lang/Math") := aQ.at 48 (by decide +kernel) (by decide +kernel)
theorem ini_J7 : aQ (.initialized "java/util/Arrays") := aQ.at 49 (by decide +kernel) (by decide +kernel)
theorem ini_X5 : aQ (.initialized "PreferenceTable$Tracker") := aQ.at 50 (by decide +kernel) (by decide +kernel)
theorem ini_X1 : aQ (.initialized "PreferenceTable$History") := aQ.at 51 (by decide +kernel) (by decide +kernel)
theorem ini_X4 : aQ (.initialized "PreferenceTable$Snapshot") := aQ.at 52 (by decide +kernel) (by decide +kernel)
theorem ini_X7 : aQ (.initialized "PreferenceTableModel") := aQ.at 53 (by decide +kernel) (by decide +kernel)
theorem ini_Throwable : aQ (.initialized "java/lang/Throwable") := aQ.at 54 (by decide +kernel) (by decide +kernel)
theorem ini_Exception : aQ (.initialized "java/lang/Exception") := aQ.at 55 (by decide +kernel) (by decide +kernel)
theorem ini_RuntimeException : aQ (.initialized "java/lang/RuntimeException") := aQ.at 56 (by decide +kernel) (by decide +kernel)
theorem ini_IllegalArgumentException : aQ (.initialized "java/lang/IllegalArgumentException") := aQ.at 57 (by decide +kernel) (by decide +kernel)
theorem ini_IllegalStateException : aQ (.initialized "java/lang/IllegalStateException") := aQ.at 58 (by decide +kernel) (by decide +kernel)
theorem ini_IndexOutOfBoundsException : aQ (.initialized "java/lang/IndexOutOfBoundsException") := aQ.at 59 (by decide +kernel) (by decide +kernel)
theorem cb_X0_init : aCb mX0_init 0 := ⟨cd_X0_init, ini_X0, ⟨by decide +kernel, by decide +kernel⟩, by decide +kernel⟩
theorem iv_X0_init : aQ (.instanceMethod yX0_init) := aQ.at 71 (by decide +kernel) (by decide +kernel)
theorem cb_X0_clear : aCb mX0_clear 0 := ⟨cd_X0_clear, ini_X0, ⟨by decide +kernel, by decide +kernel⟩, by decide +kernel⟩
theorem iv_X0_clear : aQ (.instanceMethod yX0_clear) := aQ.at 357 (by decide +kernel) (by decide +kernel)
theorem sl_X0_clear : aQ (.selects (yX0_clear).cls yX0_clear yX0_clear) := aQ.at 358 (by decide +kernel) (by decide +kernel)
theorem cb_X0_copyFrom : aCb mX0_copyFrom 1 := ⟨cd_X0_copyFrom, ini_X0, ⟨by decide +kernel, by decide +kernel⟩, by decide +kernel⟩
theorem iv_X0_copyFrom : aQ (.instanceMethod yX0_copyFrom) := aQ.at 442 (by decide +kernel) (by decide +kernel)
theorem sl_X0_copyFrom : aQ (.selects (yX0_copyFrom).cls yX0_copyFrom yX0_copyFrom) := aQ.at 443 (by decide +kernel) (by decide +kernel)
theorem cb_X0_isNumber : aCb mX0_isNumber 1 := ⟨cd_X0_isNumber, ini_X0, ⟨by decide +kernel, by decide +kernel⟩, by decide +kernel⟩
theorem st_X0_isNumber : aQ (.static yX0_isNumber) := aQ.at 244 (by decide +kernel) (by decide +kernel)
theorem cb_X0_has : aCb mX0_has 1 := ⟨cd_X0_has, ini_X0, ⟨by decide +kernel, by decide +kernel⟩, by decide +kernel⟩
theorem iv_X0_has : aQ (.instanceMethod yX0_has) := aQ.at 240 (by decide +kernel) (by decide +kernel)
theorem sl_X0_has : aQ (.selects (yX0_has).cls yX0_has yX0_has) := aQ.at 241 (by decide +kernel) (by decide +kernel)
theorem cb_X0_isUp : aCb mX0_isUp 1 := ⟨cd_X0_isUp, ini_X0, ⟨by decide +kernel, by decide +kernel⟩, by decide +kernel⟩
theorem iv_X0_isUp : aQ (.instanceMethod yX0_isUp) := aQ.at 236 (by decide +kernel) (by decide +kernel)
theorem sl_X0_isUp : aQ (.selects (yX0_isUp).cls yX0_isUp yX0_isUp) := aQ.at 237 (by decide +kernel) (by decide +kernel)
theorem cb_X0_name : aCb mX0_name 1 := ⟨cd_X0_name, ini_X0, ⟨by decide +kernel, by decide +kernel⟩, by decide +kernel⟩
theorem iv_X0_name : aQ (.instanceMethod yX0_name) := aQ.at 475 (by decide +kernel) (by decide +kernel)
theorem sl_X0_name : aQ (.selects (yX0_name).cls yX0_name yX0_name) := aQ.at 476 (by decide +kernel) (by decide +kernel)
theorem cb_X0_weight : aCb mX0_weight 1 := ⟨cd_X0_weight, ini_X0, ⟨by decide +kernel, by decide +kernel⟩, by decide +kernel⟩
theorem iv_X0_weight : aQ (.instanceMethod yX0_weight) := aQ.at 252 (by decide +kernel) (by decide +kernel)
theorem sl_X0_weight : aQ (.selects (yX0_weight).cls yX0_weight yX0_weight) := aQ.at 253 (by decide +kernel) (by decide +kernel)
theorem cb_X0_load : aCb mX0_load 1 := ⟨cd_X0_load, ini_X0, ⟨by decide +kernel, by decide +kernel⟩, by decide +kernel⟩
theorem iv_X0_load : aQ (.instanceMethod yX0_load) := aQ.at 511 (by decide +kernel) (by decide +kernel)
theorem sl_X0_load : aQ (.selects (yX0_load).cls yX0_load yX0_load) := aQ.at 512 (by decide +kernel) (by decide +kernel)
theorem cb_X0_put : aCb mX0_put 3 := ⟨cd_X0_put, ini_X0, ⟨by decide +kernel, by decide +kernel⟩, by decide +kernel⟩
theorem iv_X0_put : aQ (.instanceMethod yX0_put) := aQ.at 451 (by decide +kernel) (by decide +kernel)
theorem sl_X0_put : aQ (.selects (yX0_put).cls yX0_put yX0_put) := aQ.at 452 (by decide +kernel) (by decide +kernel)
theorem cb_X0_drop : aCb mX0_drop 1 := ⟨cd_X0_drop, ini_X0, ⟨by decide +kernel, by decide +kernel⟩, by decide +kernel⟩
theorem iv_X0_drop : aQ (.instanceMethod yX0_drop) := aQ.at 515 (by decide +kernel) (by decide +kernel)
theorem sl_X0_drop : aQ (.selects (yX0_drop).cls yX0_drop yX0_drop) := aQ.at 516 (by decide +kernel) (by decide +kernel)
theorem cb_X0_changeWeight : aCb mX0_changeWeight 2 := ⟨cd_X0_changeWeight, ini_X0, ⟨by decide +kernel, by decide +kernel⟩, by decide +kernel⟩
theorem iv_X0_changeWeight : aQ (.instanceMethod yX0_changeWeight) := aQ.at 534 (by decide +kernel) (by decide +kernel)
theorem sl_X0_changeWeight : aQ (.selects (yX0_changeWeight).cls yX0_changeWeight yX0_changeWeight) := aQ.at 535 (by decide +kernel) (by decide +kernel)
theorem cb_X0_changeUp : aCb mX0_changeUp 2 := ⟨cd_X0_changeUp, ini_X0, ⟨by decide +kernel, by decide +kernel⟩, by decide +kernel⟩
theorem iv_X0_changeUp : aQ (.instanceMethod yX0_changeUp) := aQ.at 545 (by decide +kernel) (by decide +kernel)
theorem sl_X0_changeUp : aQ (.selects (yX0_changeUp).cls yX0_changeUp yX0_changeUp) := aQ.at 546 (by decide +kernel) (by decide +kernel)
theorem cb_X0_addLoad : aCb mX0_addLoad 2 := ⟨cd_X0_addLoad, ini_X0, ⟨by decide +kernel, by decide +kernel⟩, by decide +kernel⟩
theorem iv_X0_addLoad : aQ (.instanceMethod yX0_addLoad) := aQ.at 627 (by decide +kernel) (by decide +kernel)
theorem sl_X0_addLoad : aQ (.selects (yX0_addLoad).cls yX0_addLoad yX0_addLoad) := aQ.at 628 (by decide +kernel) (by decide +kernel)
theorem cb_X0_size : aCb mX0_size 0 := ⟨cd_X0_size, ini_X0, ⟨by decide +kernel, by decide +kernel⟩, by decide +kernel⟩
theorem iv_X0_size : aQ (.instanceMethod yX0_size) := aQ.at 264 (by decide +kernel) (by decide +kernel)
theorem sl_X0_size : aQ (.selects (yX0_size).cls yX0_size yX0_size) := aQ.at 265 (by decide +kernel) (by decide +kernel)
theorem cb_X0_upCount : aCb mX0_upCount 0 := ⟨cd_X0_upCount, ini_X0, ⟨by decide +kernel, by decide +kernel⟩, by decide +kernel⟩
theorem iv_X0_upCount : aQ (.instanceMethod yX0_upCount) := aQ.at 690 (by decide +kernel) (by decide +kernel)
theorem sl_X0_upCount : aQ (.selects (yX0_upCount).cls yX0_upCount yX0_upCount) := aQ.at 691 (by decide +kernel) (by decide +kernel)
theorem cb_X0_find : aCb mX0_find 1 := ⟨cd_X0_find, ini_X0, ⟨by decide +kernel, by decide +kernel⟩, by decide +kernel⟩
theorem iv_X0_find : aQ (.instanceMethod yX0_find) := aQ.at 408 (by decide +kernel) (by decide +kernel)
theorem sl_X0_find : aQ (.selects (yX0_find).cls yX0_find yX0_find) := aQ.at 409 (by decide +kernel) (by decide +kernel)
theorem cb_X0_lowestFree : aCb mX0_lowestFree 0 := ⟨cd_X0_lowestFree, ini_X0, ⟨by decide +kernel, by decide +kernel⟩, by decide +kernel⟩
theorem iv_X0_lowestFree : aQ (.instanceMethod yX0_lowestFree) := aQ.at 428 (by decide +kernel) (by decide +kernel)
theorem sl_X0_lowestFree : aQ (.selects (yX0_lowestFree).cls yX0_lowestFree yX0_lowestFree) := aQ.at 429 (by decide +kernel) (by decide +kernel)
theorem cb_X0_weightSum : aCb mX0_weightSum 0 := ⟨cd_X0_weightSum, ini_X0, ⟨by decide +kernel, by decide +kernel⟩, by decide +kernel⟩
theorem iv_X0_weightSum : aQ (.instanceMethod yX0_weightSum) := aQ.at 232 (by decide +kernel) (by decide +kernel)
theorem sl_X0_weightSum : aQ (.selects (yX0_weightSum).cls yX0_weightSum yX0_weightSum) := aQ.at 233 (by decide +kernel) (by decide +kernel)
theorem cb_X0_greatestWeightWithout : aCb mX0_greatestWeightWithout 1 := ⟨cd_X0_greatestWeightWithout, ini_X0, ⟨by decide +kernel, by decide +kernel⟩, by decide +kernel⟩
theorem iv_X0_greatestWeightWithout : aQ (.instanceMethod yX0_greatestWeightWithout) := aQ.at 463 (by decide +kernel) (by decide +kernel)
theorem sl_X0_greatestWeightWithout : aQ (.selects (yX0_greatestWeightWithout).cls yX0_greatestWeightWithout yX0_greatestWeightWithout) := aQ.at 464 (by decide +kernel) (by decide +kernel)
theorem cb_X0_ranked : aCb mX0_ranked 1 := ⟨cd_X0_ranked, ini_X0, ⟨by decide +kernel, by decide +kernel⟩, by decide +kernel⟩
theorem iv_X0_ranked : aQ (.instanceMethod yX0_ranked) := aQ.at 710 (by decide +kernel) (by decide +kernel)
theorem sl_X0_ranked : aQ (.selects (yX0_ranked).cls yX0_ranked yX0_ranked) := aQ.at 711 (by decide +kernel) (by decide +kernel)
theorem cb_X0_countBefore : aCb mX0_countBefore 1 := ⟨cd_X0_countBefore, ini_X0, ⟨by decide +kernel, by decide +kernel⟩, by decide +kernel⟩
theorem iv_X0_countBefore : aQ (.instanceMethod yX0_countBefore) := aQ.at 715 (by decide +kernel) (by decide +kernel)
theorem sl_X0_countBefore : aQ (.selects (yX0_countBefore).cls yX0_countBefore yX0_countBefore) := aQ.at 16 (by decide +kernel) (by decide +kernel)
theorem cb_X0_ranksBefore : aCb mX0_ranksBefore 2 := ⟨cd_X0_ranksBefore, ini_X0, ⟨by decide +kernel, by decide +kernel⟩, by decide +kernel⟩
theorem iv_X0_ranksBefore : aQ (.instanceMethod yX0_ranksBefore) := aQ.at 719 (by decide +kernel) (by decide +kernel)
theorem sl_X0_ranksBefore : aQ (.selects (yX0_ranksBefore).cls yX0_ranksBefore yX0_ranksBefore) := aQ.at 17 (by decide +kernel) (by decide +kernel)
theorem cb_X1_init : aCb mX1_init 0 := ⟨cd_X1_init, ini_X1, ⟨by decide +kernel, by decide +kernel⟩, by decide +kernel⟩
theorem iv_X1_init : aQ (.instanceMethod yX1_init) := aQ.at 163 (by decide +kernel) (by decide +kernel)
theorem cb_X1_clear : aCb mX1_clear 0 := ⟨cd_X1_clear, ini_X1, ⟨by decide +kernel, by decide +kernel⟩, by decide +kernel⟩
theorem iv_X1_clear : aQ (.instanceMethod yX1_clear) := aQ.at 370 (by decide +kernel) (by decide +kernel)
theorem sl_X1_clear : aQ (.selects (yX1_clear).cls yX1_clear yX1_clear) := aQ.at 371 (by decide +kernel) (by decide +kernel)
theorem cb_X1_size : aCb mX1_size 0 := ⟨cd_X1_size, ini_X1, ⟨by decide +kernel, by decide +kernel⟩, by decide +kernel⟩
theorem iv_X1_size : aQ (.instanceMethod yX1_size) := aQ.at 805 (by decide +kernel) (by decide +kernel)
theorem sl_X1_size : aQ (.selects (yX1_size).cls yX1_size yX1_size) := aQ.at 806 (by decide +kernel) (by decide +kernel)
theorem cb_X1_remember : aCb mX1_remember 2 := ⟨cd_X1_remember, ini_X1, ⟨by decide +kernel, by decide +kernel⟩, by decide +kernel⟩
theorem iv_X1_remember : aQ (.instanceMethod yX1_remember) := aQ.at 434 (by decide +kernel) (by decide +kernel)
theorem sl_X1_remember : aQ (.selects (yX1_remember).cls yX1_remember yX1_remember) := aQ.at 435 (by decide +kernel) (by decide +kernel)
theorem cb_X1_bringBack : aCb mX1_bringBack 2 := ⟨cd_X1_bringBack, ini_X1, ⟨by decide +kernel, by decide +kernel⟩, by decide +kernel⟩
theorem iv_X1_bringBack : aQ (.instanceMethod yX1_bringBack) := aQ.at 810 (by decide +kernel) (by decide +kernel)
theorem sl_X1_bringBack : aQ (.selects (yX1_bringBack).cls yX1_bringBack yX1_bringBack) := aQ.at 811 (by decide +kernel) (by decide +kernel)
theorem cb_X2_init : aCb mX2_init 0 := ⟨cd_X2_init, ini_X2, ⟨by decide +kernel, by decide +kernel⟩, by decide +kernel⟩
theorem iv_X2_init : aQ (.instanceMethod yX2_init) := aQ.at 93 (by decide +kernel) (by decide +kernel)
theorem cb_X2_clear : aCb mX2_clear 0 := ⟨cd_X2_clear, ini_X2, ⟨by decide +kernel, by decide +kernel⟩, by decide +kernel⟩
theorem iv_X2_clear : aQ (.instanceMethod yX2_clear) := aQ.at 362 (by decide +kernel) (by decide +kernel)
theorem sl_X2_clear : aQ (.selects (yX2_clear).cls yX2_clear yX2_clear) := aQ.at 363 (by decide +kernel) (by decide +kernel)
theorem cb_X2_copyFrom : aCb mX2_copyFrom 1 := ⟨cd_X2_copyFrom, ini_X2, ⟨by decide +kernel, by decide +kernel⟩, by decide +kernel⟩
theorem iv_X2_copyFrom : aQ (.instanceMethod yX2_copyFrom) := aQ.at 446 (by decide +kernel) (by decide +kernel)
theorem sl_X2_copyFrom : aQ (.selects (yX2_copyFrom).cls yX2_copyFrom yX2_copyFrom) := aQ.at 447 (by decide +kernel) (by decide +kernel)
theorem cb_X2_size : aCb mX2_size 0 := ⟨cd_X2_size, ini_X2, ⟨by decide +kernel, by decide +kernel⟩, by decide +kernel⟩
theorem iv_X2_size : aQ (.instanceMethod yX2_size) := aQ.at 735 (by decide +kernel) (by decide +kernel)
theorem sl_X2_size : aQ (.selects (yX2_size).cls yX2_size yX2_size) := aQ.at 736 (by decide +kernel) (by decide +kernel)
theorem cb_X2_server : aCb mX2_server 1 := ⟨cd_X2_server, ini_X2, ⟨by decide +kernel, by decide +kernel⟩, by decide +kernel⟩
theorem iv_X2_server : aQ (.instanceMethod yX2_server) := aQ.at 607 (by decide +kernel) (by decide +kernel)
theorem sl_X2_server : aQ (.selects (yX2_server).cls yX2_server yX2_server) := aQ.at 608 (by decide +kernel) (by decide +kernel)
theorem cb_X2_put : aCb mX2_put 2 := ⟨cd_X2_put, ini_X2, ⟨by decide +kernel, by decide +kernel⟩, by decide +kernel⟩
theorem iv_X2_put : aQ (.instanceMethod yX2_put) := aQ.at 740 (by decide +kernel) (by decide +kernel)
theorem sl_X2_put : aQ (.selects (yX2_put).cls yX2_put yX2_put) := aQ.at 741 (by decide +kernel) (by decide +kernel)
theorem cb_X2_drop : aCb mX2_drop 1 := ⟨cd_X2_drop, ini_X2, ⟨by decide +kernel, by decide +kernel⟩, by decide +kernel⟩
theorem iv_X2_drop : aQ (.instanceMethod yX2_drop) := aQ.at 744 (by decide +kernel) (by decide +kernel)
theorem sl_X2_drop : aQ (.selects (yX2_drop).cls yX2_drop yX2_drop) := aQ.at 745 (by decide +kernel) (by decide +kernel)
theorem cb_X2_dropServer : aCb mX2_dropServer 1 := ⟨cd_X2_dropServer, ini_X2, ⟨by decide +kernel, by decide +kernel⟩, by decide +kernel⟩
theorem iv_X2_dropServer : aQ (.instanceMethod yX2_dropServer) := aQ.at 519 (by decide +kernel) (by decide +kernel)
theorem sl_X2_dropServer : aQ (.selects (yX2_dropServer).cls yX2_dropServer yX2_dropServer) := aQ.at 520 (by decide +kernel) (by decide +kernel)
theorem cb_X2_append : aCb mX2_append 2 := ⟨cd_X2_append, ini_X2, ⟨by decide +kernel, by decide +kernel⟩, by decide +kernel⟩
theorem iv_X2_append : aQ (.instanceMethod yX2_append) := aQ.at 524 (by decide +kernel) (by decide +kernel)
theorem sl_X2_append : aQ (.selects (yX2_append).cls yX2_append yX2_append) := aQ.at 7 (by decide +kernel) (by decide +kernel)
theorem cb_X3_init : aCb mX3_init 1 := ⟨cd_X3_init, ini_X3, ⟨by decide +kernel, by decide +kernel⟩, by decide +kernel⟩
theorem iv_X3_init : aQ (.instanceMethod yX3_init) := aQ.at 109 (by decide +kernel) (by decide +kernel)
theorem cb_X3_startAnew : aCb mX3_startAnew 1 := ⟨cd_X3_startAnew, ini_X3, ⟨by decide +kernel, by decide +kernel⟩, by decide +kernel⟩
theorem iv_X3_startAnew : aQ (.instanceMethod yX3_startAnew) := aQ.at 113 (by decide +kernel) (by decide +kernel)
theorem sl_X3_startAnew : aQ (.selects (yX3_startAnew).cls yX3_startAnew yX3_startAnew) := aQ.at 114 (by decide +kernel) (by decide +kernel)
theorem cb_X3_size : aCb mX3_size 0 := ⟨cd_X3_size, ini_X3, ⟨by decide +kernel, by decide +kernel⟩, by decide +kernel⟩
theorem iv_X3_size : aQ (.instanceMethod yX3_size) := aQ.at 248 (by decide +kernel) (by decide +kernel)
theorem sl_X3_size : aQ (.selects (yX3_size).cls yX3_size yX3_size) := aQ.at 249 (by decide +kernel) (by decide +kernel)
theorem cb_X3_isSlot : aCb mX3_isSlot 1 := ⟨cd_X3_isSlot, ini_X3, ⟨by decide +kernel, by decide +kernel⟩, by decide +kernel⟩
theorem iv_X3_isSlot : aQ (.instanceMethod yX3_isSlot) := aQ.at 382 (by decide +kernel) (by decide +kernel)
theorem sl_X3_isSlot : aQ (.selects (yX3_isSlot).cls yX3_isSlot yX3_isSlot) := aQ.at 383 (by decide +kernel) (by decide +kernel)
theorem cb_X3_owner : aCb mX3_owner 1 := ⟨cd_X3_owner, ini_X3, ⟨by decide +kernel, by decide +kernel⟩, by decide +kernel⟩
theorem iv_X3_owner : aQ (.instanceMethod yX3_owner) := aQ.at 387 (by decide +kernel) (by decide +kernel)
theorem sl_X3_owner : aQ (.selects (yX3_owner).cls yX3_owner yX3_owner) := aQ.at 388 (by decide +kernel) (by decide +kernel)
theorem cb_X3_changedSlots : aCb mX3_changedSlots 0 := ⟨cd_X3_changedSlots, ini_X3, ⟨by decide +kernel, by decide +kernel⟩, by decide +kernel⟩
theorem iv_X3_changedSlots : aQ (.instanceMethod yX3_changedSlots) := aQ.at 212 (by decide +kernel) (by decide +kernel)
theorem sl_X3_changedSlots : aQ (.selects (yX3_changedSlots).cls yX3_changedSlots yX3_changedSlots) := aQ.at 213 (by decide +kernel) (by decide +kernel)
theorem cb_X3_forcedSlots : aCb mX3_forcedSlots 0 := ⟨cd_X3_forcedSlots, ini_X3, ⟨by decide +kernel, by decide +kernel⟩, by decide +kernel⟩
theorem iv_X3_forcedSlots : aQ (.instanceMethod yX3_forcedSlots) := aQ.at 220 (by decide +kernel) (by decide +kernel)
theorem sl_X3_forcedSlots : aQ (.selects (yX3_forcedSlots).cls yX3_forcedSlots yX3_forcedSlots) := aQ.at 221 (by decide +kernel) (by decide +kernel)
theorem cb_X3_ownedBy : aCb mX3_ownedBy 1 := ⟨cd_X3_ownedBy, ini_X3, ⟨by decide +kernel, by decide +kernel⟩, by decide +kernel⟩
theorem iv_X3_ownedBy : aQ (.instanceMethod yX3_ownedBy) := aQ.at 256 (by decide +kernel) (by decide +kernel)
theorem sl_X3_ownedBy : aQ (.selects (yX3_ownedBy).cls yX3_ownedBy yX3_ownedBy) := aQ.at 257 (by decide +kernel) (by decide +kernel)
theorem cb_X3_slotOfKey : aCb mX3_slotOfKey 1 := ⟨cd_X3_slotOfKey, ini_X3, ⟨by decide +kernel, by decide +kernel⟩, by decide +kernel⟩
theorem iv_X3_slotOfKey : aQ (.instanceMethod yX3_slotOfKey) := aQ.at 611 (by decide +kernel) (by decide +kernel)
theorem sl_X3_slotOfKey : aQ (.selects (yX3_slotOfKey).cls yX3_slotOfKey yX3_slotOfKey) := aQ.at 612 (by decide +kernel) (by decide +kernel)
theorem cb_X3_preferredSlot : aCb mX3_preferredSlot 2 := ⟨cd_X3_preferredSlot, ini_X3, ⟨by decide +kernel, by decide +kernel⟩, by decide +kernel⟩
theorem iv_X3_preferredSlot : aQ (.instanceMethod yX3_preferredSlot) := aQ.at 483 (by decide +kernel) (by decide +kernel)
theorem sl_X3_preferredSlot : aQ (.selects (yX3_preferredSlot).cls yX3_preferredSlot yX3_preferredSlot) := aQ.at 484 (by decide +kernel) (by decide +kernel)
theorem cb_X3_rebuild : aCb mX3_rebuild 1 := ⟨cd_X3_rebuild, ini_X3, ⟨by decide +kernel, by decide +kernel⟩, by decide +kernel⟩
theorem iv_X3_rebuild : aQ (.instanceMethod yX3_rebuild) := aQ.at 455 (by decide +kernel) (by decide +kernel)
theorem sl_X3_rebuild : aQ (.selects (yX3_rebuild).cls yX3_rebuild yX3_rebuild) := aQ.at 456 (by decide +kernel) (by decide +kernel)
theorem cb_X3_changedWithout : aCb mX3_changedWithout 2 := ⟨cd_X3_changedWithout, ini_X3, ⟨by decide +kernel, by decide +kernel⟩, by decide +kernel⟩
theorem iv_X3_changedWithout : aQ (.instanceMethod yX3_changedWithout) := aQ.at 587 (by decide +kernel) (by decide +kernel)
theorem sl_X3_changedWithout : aQ (.selects (yX3_changedWithout).cls yX3_changedWithout yX3_changedWithout) := aQ.at 588 (by decide +kernel) (by decide +kernel)
theorem cb_X3_countChanged : aCb mX3_countChanged 0 := ⟨cd_X3_countChanged, ini_X3, ⟨by decide +kernel, by decide +kernel⟩, by decide +kernel⟩
theorem iv_X3_countChanged : aQ (.instanceMethod yX3_countChanged) := aQ.at 491 (by decide +kernel) (by decide +kernel)
theorem sl_X3_countChanged : aQ (.selects (yX3_countChanged).cls yX3_countChanged yX3_countChanged) := aQ.at 4 (by decide +kernel) (by decide +kernel)
theorem cb_X3_countForced : aCb mX3_countForced 1 := ⟨cd_X3_countForced, ini_X3, ⟨by decide +kernel, by decide +kernel⟩, by decide +kernel⟩
theorem iv_X3_countForced : aQ (.instanceMethod yX3_countForced) := aQ.at 495 (by decide +kernel) (by decide +kernel)
theorem sl_X3_countForced : aQ (.selects (yX3_countForced).cls yX3_countForced yX3_countForced) := aQ.at 5 (by decide +kernel) (by decide +kernel)
theorem cb_X3_draw : aCb mX3_draw 2 := ⟨cd_X3_draw, ini_X3, ⟨by decide +kernel, by decide +kernel⟩, by decide +kernel⟩
theorem iv_X3_draw : aQ (.instanceMethod yX3_draw) := aQ.at 460 (by decide +kernel) (by decide +kernel)
theorem sl_X3_draw : aQ (.selects (yX3_draw).cls yX3_draw yX3_draw) := aQ.at 2 (by decide +kernel) (by decide +kernel)
theorem cb_X3_hasTurn : aCb mX3_hasTurn 3 := ⟨cd_X3_hasTurn, ini_X3, ⟨by decide +kernel, by decide +kernel⟩, by decide +kernel⟩
theorem st_X3_hasTurn : aQ (.static yX3_hasTurn) := aQ.at 472 (by decide +kernel) (by decide +kernel)
theorem cb_X3_claim : aCb mX3_claim 2 := ⟨cd_X3_claim, ini_X3, ⟨by decide +kernel, by decide +kernel⟩, by decide +kernel⟩
theorem iv_X3_claim : aQ (.instanceMethod yX3_claim) := aQ.at 480 (by decide +kernel) (by decide +kernel)
theorem sl_X3_claim : aQ (.selects (yX3_claim).cls yX3_claim yX3_claim) := aQ.at 3 (by decide +kernel) (by decide +kernel)
theorem cb_X4_init : aCb mX4_init 0 := ⟨cd_X4_init, ini_X4, ⟨by decide +kernel, by decide +kernel⟩, by decide +kernel⟩
theorem iv_X4_init : aQ (.instanceMethod yX4_init) := aQ.at 170 (by decide +kernel) (by decide +kernel)
theorem cb_X4_take : aCb mX4_take 2 := ⟨cd_X4_take, ini_X4, ⟨by decide +kernel, by decide +kernel⟩, by decide +kernel⟩
theorem iv_X4_take : aQ (.instanceMethod yX4_take) := aQ.at 438 (by decide +kernel) (by decide +kernel)
theorem sl_X4_take : aQ (.selects (yX4_take).cls yX4_take yX4_take) := aQ.at 439 (by decide +kernel) (by decide +kernel)
theorem cb_X4_give : aCb mX4_give 2 := ⟨cd_X4_give, ini_X4, ⟨by decide +kernel, by decide +kernel⟩, by decide +kernel⟩
theorem iv_X4_give : aQ (.instanceMethod yX4_give) := aQ.at 814 (by decide +kernel) (by decide +kernel)
theorem sl_X4_give : aQ (.selects (yX4_give).cls yX4_give yX4_give) := aQ.at 815 (by decide +kernel) (by decide +kernel)
theorem cb_X5_init : aCb mX5_init 0 := ⟨cd_X5_init, ini_X5, ⟨by decide +kernel, by decide +kernel⟩, by decide +kernel⟩
theorem iv_X5_init : aQ (.instanceMethod yX5_init) := aQ.at 144 (by decide +kernel) (by decide +kernel)
theorem cb_X5_clear : aCb mX5_clear 0 := ⟨cd_X5_clear, ini_X5, ⟨by decide +kernel, by decide +kernel⟩, by decide +kernel⟩
theorem iv_X5_clear : aQ (.instanceMethod yX5_clear) := aQ.at 366 (by decide +kernel) (by decide +kernel)
theorem sl_X5_clear : aQ (.selects (yX5_clear).cls yX5_clear yX5_clear) := aQ.at 367 (by decide +kernel) (by decide +kernel)
theorem cb_X5_size : aCb mX5_size 0 := ⟨cd_X5_size, ini_X5, ⟨by decide +kernel, by decide +kernel⟩, by decide +kernel⟩
theorem iv_X5_size : aQ (.instanceMethod yX5_size) := aQ.at 272 (by decide +kernel) (by decide +kernel)
theorem sl_X5_size : aQ (.selects (yX5_size).cls yX5_size yX5_size) := aQ.at 273 (by decide +kernel) (by decide +kernel)
theorem cb_X5_has : aCb mX5_has 1 := ⟨cd_X5_has, ini_X5, ⟨by decide +kernel, by decide +kernel⟩, by decide +kernel⟩
theorem iv_X5_has : aQ (.instanceMethod yX5_has) := aQ.at 655 (by decide +kernel) (by decide +kernel)
theorem sl_X5_has : aQ (.selects (yX5_has).cls yX5_has yX5_has) := aQ.at 656 (by decide +kernel) (by decide +kernel)
theorem cb_X5_key : aCb mX5_key 1 := ⟨cd_X5_key, ini_X5, ⟨by decide +kernel, by decide +kernel⟩, by decide +kernel⟩
theorem iv_X5_key : aQ (.instanceMethod yX5_key) := aQ.at 667 (by decide +kernel) (by decide +kernel)
theorem sl_X5_key : aQ (.selects (yX5_key).cls yX5_key yX5_key) := aQ.at 668 (by decide +kernel) (by decide +kernel)
theorem cb_X5_counted : aCb mX5_counted 1 := ⟨cd_X5_counted, ini_X5, ⟨by decide +kernel, by decide +kernel⟩, by decide +kernel⟩
theorem iv_X5_counted : aQ (.instanceMethod yX5_counted) := aQ.at 651 (by decide +kernel) (by decide +kernel)
theorem sl_X5_counted : aQ (.selects (yX5_counted).cls yX5_counted yX5_counted) := aQ.at 652 (by decide +kernel) (by decide +kernel)
theorem cb_X5_error : aCb mX5_error 1 := ⟨cd_X5_error, ini_X5, ⟨by decide +kernel, by decide +kernel⟩, by decide +kernel⟩
theorem iv_X5_error : aQ (.instanceMethod yX5_error) := aQ.at 794 (by decide +kernel) (by decide +kernel)
theorem sl_X5_error : aQ (.selects (yX5_error).cls yX5_error yX5_error) := aQ.at 795 (by decide +kernel) (by decide +kernel)
theorem cb_X5_count : aCb mX5_count 2 := ⟨cd_X5_count, ini_X5, ⟨by decide +kernel, by decide +kernel⟩, by decide +kernel⟩
theorem iv_X5_count : aQ (.instanceMethod yX5_count) := aQ.at 631 (by decide +kernel) (by decide +kernel)
theorem sl_X5_count : aQ (.selects (yX5_count).cls yX5_count yX5_count) := aQ.at 632 (by decide +kernel) (by decide +kernel)
theorem cb_X5_find : aCb mX5_find 1 := ⟨cd_X5_find, ini_X5, ⟨by decide +kernel, by decide +kernel⟩, by decide +kernel⟩
theorem iv_X5_find : aQ (.instanceMethod yX5_find) := aQ.at 636 (by decide +kernel) (by decide +kernel)
theorem sl_X5_find : aQ (.selects (yX5_find).cls yX5_find yX5_find) := aQ.at 9 (by decide +kernel) (by decide +kernel)
theorem cb_X5_append : aCb mX5_append 1 := ⟨cd_X5_append, ini_X5, ⟨by decide +kernel, by decide +kernel⟩, by decide +kernel⟩
theorem iv_X5_append : aQ (.instanceMethod yX5_append) := aQ.at 640 (by decide +kernel) (by decide +kernel)
theorem sl_X5_append : aQ (.selects (yX5_append).cls yX5_append yX5_append) := aQ.at 10 (by decide +kernel) (by decide +kernel)
theorem cb_X5_replaceLeast : aCb mX5_replaceLeast 1 := ⟨cd_X5_replaceLeast, ini_X5, ⟨by decide +kernel, by decide +kernel⟩, by decide +kernel⟩
theorem iv_X5_replaceLeast : aQ (.instanceMethod yX5_replaceLeast) := aQ.at 644 (by decide +kernel) (by decide +kernel)
theorem sl_X5_replaceLeast : aQ (.selects (yX5_replaceLeast).cls yX5_replaceLeast yX5_replaceLeast) := aQ.at 11 (by decide +kernel) (by decide +kernel)
theorem cb_X5_least : aCb mX5_least 0 := ⟨cd_X5_least, ini_X5, ⟨by decide +kernel, by decide +kernel⟩, by decide +kernel⟩
theorem iv_X5_least : aQ (.instanceMethod yX5_least) := aQ.at 648 (by decide +kernel) (by decide +kernel)
theorem sl_X5_least : aQ (.selects (yX5_least).cls yX5_least yX5_least) := aQ.at 12 (by decide +kernel) (by decide +kernel)
theorem cb_X5_moveForward : aCb mX5_moveForward 1 := ⟨cd_X5_moveForward, ini_X5, ⟨by decide +kernel, by decide +kernel⟩, by decide +kernel⟩
theorem iv_X5_moveForward : aQ (.instanceMethod yX5_moveForward) := aQ.at 660 (by decide +kernel) (by decide +kernel)
theorem sl_X5_moveForward : aQ (.selects (yX5_moveForward).cls yX5_moveForward yX5_moveForward) := aQ.at 13 (by decide +kernel) (by decide +kernel)
theorem cb_X5_isListedBefore : aCb mX5_isListedBefore 2 := ⟨cd_X5_isListedBefore, ini_X5, ⟨by decide +kernel, by decide +kernel⟩, by decide +kernel⟩
theorem iv_X5_isListedBefore : aQ (.instanceMethod yX5_isListedBefore) := aQ.at 664 (by decide +kernel) (by decide +kernel)
theorem sl_X5_isListedBefore : aQ (.selects (yX5_isListedBefore).cls yX5_isListedBefore yX5_isListedBefore) := aQ.at 14 (by decide +kernel) (by decide +kernel)
theorem cb_X5_swap : aCb mX5_swap 2 := ⟨cd_X5_swap, ini_X5, ⟨by decide +kernel, by decide +kernel⟩, by decide +kernel⟩
theorem iv_X5_swap : aQ (.instanceMethod yX5_swap) := aQ.at 672 (by decide +kernel) (by decide +kernel)
theorem sl_X5_swap : aQ (.selects (yX5_swap).cls yX5_swap yX5_swap) := aQ.at 15 (by decide +kernel) (by decide +kernel)
theorem cb_X6_init : aCb mX6_init 0 := ⟨cd_X6_init, ini_X6, ⟨by decide +kernel, by decide +kernel⟩, by decide +kernel⟩
theorem iv_X6_init : aQ (.instanceMethod yX6_init) := aQ.at 63 (by decide +kernel) (by decide +kernel)
theorem cb_X6_reset : aCb mX6_reset 1 := ⟨cd_X6_reset, ini_X6, ⟨by decide +kernel, by decide +kernel⟩, by decide +kernel⟩
theorem iv_X6_reset : aQ (.instanceMethod yX6_reset) := aQ.at 280 (by decide +kernel) (by decide +kernel)
theorem sl_X6_reset : aQ (.selects (yX6_reset).cls yX6_reset yX6_reset) := aQ.at 281 (by decide +kernel) (by decide +kernel)
theorem cb_X6_serverAt : aCb mX6_serverAt 1 := ⟨cd_X6_serverAt, ini_X6, ⟨by decide +kernel, by decide +kernel⟩, by decide +kernel⟩
theorem iv_X6_serverAt : aQ (.instanceMethod yX6_serverAt) := aQ.at 378 (by decide +kernel) (by decide +kernel)
theorem sl_X6_serverAt : aQ (.selects (yX6_serverAt).cls yX6_serverAt yX6_serverAt) := aQ.at 379 (by decide +kernel) (by decide +kernel)
theorem cb_X6_disruption : aCb mX6_disruption 0 := ⟨cd_X6_disruption, ini_X6, ⟨by decide +kernel, by decide +kernel⟩, by decide +kernel⟩
theorem iv_X6_disruption : aQ (.instanceMethod yX6_disruption) := aQ.at 208 (by decide +kernel) (by decide +kernel)
theorem sl_X6_disruption : aQ (.selects (yX6_disruption).cls yX6_disruption yX6_disruption) := aQ.at 209 (by decide +kernel) (by decide +kernel)
theorem cb_X6_forcedDisruption : aCb mX6_forcedDisruption 0 := ⟨cd_X6_forcedDisruption, ini_X6, ⟨by decide +kernel, by decide +kernel⟩, by decide +kernel⟩
theorem iv_X6_forcedDisruption : aQ (.instanceMethod yX6_forcedDisruption) := aQ.at 216 (by decide +kernel) (by decide +kernel)
theorem sl_X6_forcedDisruption : aQ (.selects (yX6_forcedDisruption).cls yX6_forcedDisruption yX6_forcedDisruption) := aQ.at 217 (by decide +kernel) (by decide +kernel)
theorem cb_X6_imbalance : aCb mX6_imbalance 0 := ⟨cd_X6_imbalance, ini_X6, ⟨by decide +kernel, by decide +kernel⟩, by decide +kernel⟩
theorem iv_X6_imbalance : aQ (.instanceMethod yX6_imbalance) := aQ.at 224 (by decide +kernel) (by decide +kernel)
theorem sl_X6_imbalance : aQ (.selects (yX6_imbalance).cls yX6_imbalance yX6_imbalance) := aQ.at 225 (by decide +kernel) (by decide +kernel)
theorem cb_X6_addServer : aCb mX6_addServer 2 := ⟨cd_X6_addServer, ini_X6, ⟨by decide +kernel, by decide +kernel⟩, by decide +kernel⟩
theorem iv_X6_addServer : aQ (.instanceMethod yX6_addServer) := aQ.at 396 (by decide +kernel) (by decide +kernel)
theorem sl_X6_addServer : aQ (.selects (yX6_addServer).cls yX6_addServer yX6_addServer) := aQ.at 397 (by decide +kernel) (by decide +kernel)
theorem cb_X6_removeServer : aCb mX6_removeServer 1 := ⟨cd_X6_removeServer, ini_X6, ⟨by decide +kernel, by decide +kernel⟩, by decide +kernel⟩
theorem iv_X6_removeServer : aQ (.instanceMethod yX6_removeServer) := aQ.at 501 (by decide +kernel) (by decide +kernel)
theorem sl_X6_removeServer : aQ (.selects (yX6_removeServer).cls yX6_removeServer yX6_removeServer) := aQ.at 502 (by decide +kernel) (by decide +kernel)
theorem cb_X6_setWeight : aCb mX6_setWeight 2 := ⟨cd_X6_setWeight, ini_X6, ⟨by decide +kernel, by decide +kernel⟩, by decide +kernel⟩
theorem iv_X6_setWeight : aQ (.instanceMethod yX6_setWeight) := aQ.at 530 (by decide +kernel) (by decide +kernel)
theorem sl_X6_setWeight : aQ (.selects (yX6_setWeight).cls yX6_setWeight yX6_setWeight) := aQ.at 531 (by decide +kernel) (by decide +kernel)
theorem cb_X6_setUp : aCb mX6_setUp 2 := ⟨cd_X6_setUp, ini_X6, ⟨by decide +kernel, by decide +kernel⟩, by decide +kernel⟩
theorem iv_X6_setUp : aQ (.instanceMethod yX6_setUp) := aQ.at 541 (by decide +kernel) (by decide +kernel)
theorem sl_X6_setUp : aQ (.selects (yX6_setUp).cls yX6_setUp yX6_setUp) := aQ.at 542 (by decide +kernel) (by decide +kernel)
theorem cb_X6_serverCount : aCb mX6_serverCount 0 := ⟨cd_X6_serverCount, ini_X6, ⟨by decide +kernel, by decide +kernel⟩, by decide +kernel⟩
theorem iv_X6_serverCount : aQ (.instanceMethod yX6_serverCount) := aQ.at 260 (by decide +kernel) (by decide +kernel)
theorem sl_X6_serverCount : aQ (.selects (yX6_serverCount).cls yX6_serverCount yX6_serverCount) := aQ.at 261 (by decide +kernel) (by decide +kernel)
theorem cb_X6_serverNamed : aCb mX6_serverNamed 1 := ⟨cd_X6_serverNamed, ini_X6, ⟨by decide +kernel, by decide +kernel⟩, by decide +kernel⟩
theorem iv_X6_serverNamed : aQ (.instanceMethod yX6_serverNamed) := aQ.at 552 (by decide +kernel) (by decide +kernel)
theorem sl_X6_serverNamed : aQ (.selects (yX6_serverNamed).cls yX6_serverNamed yX6_serverNamed) := aQ.at 553 (by decide +kernel) (by decide +kernel)
theorem cb_X6_preference : aCb mX6_preference 2 := ⟨cd_X6_preference, ini_X6, ⟨by decide +kernel, by decide +kernel⟩, by decide +kernel⟩
theorem iv_X6_preference : aQ (.instanceMethod yX6_preference) := aQ.at 559 (by decide +kernel) (by decide +kernel)
theorem sl_X6_preference : aQ (.selects (yX6_preference).cls yX6_preference yX6_preference) := aQ.at 560 (by decide +kernel) (by decide +kernel)
theorem cb_X6_slotsOf : aCb mX6_slotsOf 1 := ⟨cd_X6_slotsOf, ini_X6, ⟨by decide +kernel, by decide +kernel⟩, by decide +kernel⟩
theorem iv_X6_slotsOf : aQ (.instanceMethod yX6_slotsOf) := aQ.at 569 (by decide +kernel) (by decide +kernel)
theorem sl_X6_slotsOf : aQ (.selects (yX6_slotsOf).cls yX6_slotsOf yX6_slotsOf) := aQ.at 570 (by decide +kernel) (by decide +kernel)
theorem cb_X6_idealShare : aCb mX6_idealShare 1 := ⟨cd_X6_idealShare, ini_X6, ⟨by decide +kernel, by decide +kernel⟩, by decide +kernel⟩
theorem iv_X6_idealShare : aQ (.instanceMethod yX6_idealShare) := aQ.at 576 (by decide +kernel) (by decide +kernel)
theorem sl_X6_idealShare : aQ (.selects (yX6_idealShare).cls yX6_idealShare yX6_idealShare) := aQ.at 577 (by decide +kernel) (by decide +kernel)
theorem cb_X6_removalDisruption : aCb mX6_removalDisruption 1 := ⟨cd_X6_removalDisruption, ini_X6, ⟨by decide +kernel, by decide +kernel⟩, by decide +kernel⟩
theorem iv_X6_removalDisruption : aQ (.instanceMethod yX6_removalDisruption) := aQ.at 583 (by decide +kernel) (by decide +kernel)
theorem sl_X6_removalDisruption : aQ (.selects (yX6_removalDisruption).cls yX6_removalDisruption yX6_removalDisruption) := aQ.at 584 (by decide +kernel) (by decide +kernel)
theorem cb_X6_serverOf : aCb mX6_serverOf 1 := ⟨cd_X6_serverOf, ini_X6, ⟨by decide +kernel, by decide +kernel⟩, by decide +kernel⟩
theorem iv_X6_serverOf : aQ (.instanceMethod yX6_serverOf) := aQ.at 594 (by decide +kernel) (by decide +kernel)
theorem sl_X6_serverOf : aQ (.selects (yX6_serverOf).cls yX6_serverOf yX6_serverOf) := aQ.at 595 (by decide +kernel) (by decide +kernel)
theorem cb_X6_request : aCb mX6_request 2 := ⟨cd_X6_request, ini_X6, ⟨by decide +kernel, by decide +kernel⟩, by decide +kernel⟩
theorem iv_X6_request : aQ (.instanceMethod yX6_request) := aQ.at 621 (by decide +kernel) (by decide +kernel)
theorem sl_X6_request : aQ (.selects (yX6_request).cls yX6_request yX6_request) := aQ.at 622 (by decide +kernel) (by decide +kernel)
theorem cb_X6_loadOf : aCb mX6_loadOf 1 := ⟨cd_X6_loadOf, ini_X6, ⟨by decide +kernel, by decide +kernel⟩, by decide +kernel⟩
theorem iv_X6_loadOf : aQ (.instanceMethod yX6_loadOf) := aQ.at 678 (by decide +kernel) (by decide +kernel)
theorem sl_X6_loadOf : aQ (.selects (yX6_loadOf).cls yX6_loadOf yX6_loadOf) := aQ.at 679 (by decide +kernel) (by decide +kernel)
theorem cb_X6_rankedServer : aCb mX6_rankedServer 1 := ⟨cd_X6_rankedServer, ini_X6, ⟨by decide +kernel, by decide +kernel⟩, by decide +kernel⟩
theorem iv_X6_rankedServer : aQ (.instanceMethod yX6_rankedServer) := aQ.at 686 (by decide +kernel) (by decide +kernel)
theorem sl_X6_rankedServer : aQ (.selects (yX6_rankedServer).cls yX6_rankedServer yX6_rankedServer) := aQ.at 687 (by decide +kernel) (by decide +kernel)
theorem cb_X6_pin : aCb mX6_pin 2 := ⟨cd_X6_pin, ini_X6, ⟨by decide +kernel, by decide +kernel⟩, by decide +kernel⟩
theorem iv_X6_pin : aQ (.instanceMethod yX6_pin) := aQ.at 727 (by decide +kernel) (by decide +kernel)
theorem sl_X6_pin : aQ (.selects (yX6_pin).cls yX6_pin yX6_pin) := aQ.at 728 (by decide +kernel) (by decide +kernel)
theorem cb_X6_unpin : aCb mX6_unpin 1 := ⟨cd_X6_unpin, ini_X6, ⟨by decide +kernel, by decide +kernel⟩, by decide +kernel⟩
theorem iv_X6_unpin : aQ (.instanceMethod yX6_unpin) := aQ.at 751 (by decide +kernel) (by decide +kernel)
theorem sl_X6_unpin : aQ (.selects (yX6_unpin).cls yX6_unpin yX6_unpin) := aQ.at 752 (by decide +kernel) (by decide +kernel)
theorem cb_X6_pinHottest : aCb mX6_pinHottest 0 := ⟨cd_X6_pinHottest, ini_X6, ⟨by decide +kernel, by decide +kernel⟩, by decide +kernel⟩
theorem iv_X6_pinHottest : aQ (.instanceMethod yX6_pinHottest) := aQ.at 759 (by decide +kernel) (by decide +kernel)
theorem sl_X6_pinHottest : aQ (.selects (yX6_pinHottest).cls yX6_pinHottest yX6_pinHottest) := aQ.at 760 (by decide +kernel) (by decide +kernel)
theorem cb_X6_trackedKeys : aCb mX6_trackedKeys 0 := ⟨cd_X6_trackedKeys, ini_X6, ⟨by decide +kernel, by decide +kernel⟩, by decide +kernel⟩
theorem iv_X6_trackedKeys : aQ (.instanceMethod yX6_trackedKeys) := aQ.at 268 (by decide +kernel) (by decide +kernel)
theorem sl_X6_trackedKeys : aQ (.selects (yX6_trackedKeys).cls yX6_trackedKeys yX6_trackedKeys) := aQ.at 269 (by decide +kernel) (by decide +kernel)
theorem cb_X6_hotKey : aCb mX6_hotKey 1 := ⟨cd_X6_hotKey, ini_X6, ⟨by decide +kernel, by decide +kernel⟩, by decide +kernel⟩
theorem iv_X6_hotKey : aQ (.instanceMethod yX6_hotKey) := aQ.at 769 (by decide +kernel) (by decide +kernel)
theorem sl_X6_hotKey : aQ (.selects (yX6_hotKey).cls yX6_hotKey yX6_hotKey) := aQ.at 770 (by decide +kernel) (by decide +kernel)
theorem cb_X6_hotCount : aCb mX6_hotCount 1 := ⟨cd_X6_hotCount, ini_X6, ⟨by decide +kernel, by decide +kernel⟩, by decide +kernel⟩
theorem iv_X6_hotCount : aQ (.instanceMethod yX6_hotCount) := aQ.at 782 (by decide +kernel) (by decide +kernel)
theorem sl_X6_hotCount : aQ (.selects (yX6_hotCount).cls yX6_hotCount yX6_hotCount) := aQ.at 783 (by decide +kernel) (by decide +kernel)
theorem cb_X6_hotError : aCb mX6_hotError 1 := ⟨cd_X6_hotError, ini_X6, ⟨by decide +kernel, by decide +kernel⟩, by decide +kernel⟩
theorem iv_X6_hotError : aQ (.instanceMethod yX6_hotError) := aQ.at 790 (by decide +kernel) (by decide +kernel)
theorem sl_X6_hotError : aQ (.selects (yX6_hotError).cls yX6_hotError yX6_hotError) := aQ.at 791 (by decide +kernel) (by decide +kernel)
theorem cb_X6_undo : aCb mX6_undo 0 := ⟨cd_X6_undo, ini_X6, ⟨by decide +kernel, by decide +kernel⟩, by decide +kernel⟩
theorem iv_X6_undo : aQ (.instanceMethod yX6_undo) := aQ.at 801 (by decide +kernel) (by decide +kernel)
theorem sl_X6_undo : aQ (.selects (yX6_undo).cls yX6_undo yX6_undo) := aQ.at 802 (by decide +kernel) (by decide +kernel)
theorem cb_X6_isSlotCount : aCb mX6_isSlotCount 1 := ⟨cd_X6_isSlotCount, ini_X6, ⟨by decide +kernel, by decide +kernel⟩, by decide +kernel⟩
theorem st_X6_isSlotCount : aQ (.static yX6_isSlotCount) := aQ.at 284 (by decide +kernel) (by decide +kernel)
theorem cb_X6_checkName : aCb mX6_checkName 1 := ⟨cd_X6_checkName, ini_X6, ⟨by decide +kernel, by decide +kernel⟩, by decide +kernel⟩
theorem st_X6_checkName : aQ (.static yX6_checkName) := aQ.at 400 (by decide +kernel) (by decide +kernel)
theorem cb_X6_checkWeight : aCb mX6_checkWeight 1 := ⟨cd_X6_checkWeight, ini_X6, ⟨by decide +kernel, by decide +kernel⟩, by decide +kernel⟩
theorem st_X6_checkWeight : aQ (.static yX6_checkWeight) := aQ.at 404 (by decide +kernel) (by decide +kernel)
theorem cb_X6_checkKey : aCb mX6_checkKey 1 := ⟨cd_X6_checkKey, ini_X6, ⟨by decide +kernel, by decide +kernel⟩, by decide +kernel⟩
theorem st_X6_checkKey : aQ (.static yX6_checkKey) := aQ.at 598 (by decide +kernel) (by decide +kernel)
theorem cb_X6_checkServer : aCb mX6_checkServer 1 := ⟨cd_X6_checkServer, ini_X6, ⟨by decide +kernel, by decide +kernel⟩, by decide +kernel⟩
theorem iv_X6_checkServer : aQ (.instanceMethod yX6_checkServer) := aQ.at 506 (by decide +kernel) (by decide +kernel)
theorem sl_X6_checkServer : aQ (.selects (yX6_checkServer).cls yX6_checkServer yX6_checkServer) := aQ.at 6 (by decide +kernel) (by decide +kernel)
theorem cb_X6_checkEntry : aCb mX6_checkEntry 1 := ⟨cd_X6_checkEntry, ini_X6, ⟨by decide +kernel, by decide +kernel⟩, by decide +kernel⟩
theorem iv_X6_checkEntry : aQ (.instanceMethod yX6_checkEntry) := aQ.at 774 (by decide +kernel) (by decide +kernel)
theorem sl_X6_checkEntry : aQ (.selects (yX6_checkEntry).cls yX6_checkEntry yX6_checkEntry) := aQ.at 19 (by decide +kernel) (by decide +kernel)
theorem cb_X6_checkRoomForPin : aCb mX6_checkRoomForPin 1 := ⟨cd_X6_checkRoomForPin, ini_X6, ⟨by decide +kernel, by decide +kernel⟩, by decide +kernel⟩
theorem iv_X6_checkRoomForPin : aQ (.instanceMethod yX6_checkRoomForPin) := aQ.at 732 (by decide +kernel) (by decide +kernel)
theorem sl_X6_checkRoomForPin : aQ (.selects (yX6_checkRoomForPin).cls yX6_checkRoomForPin yX6_checkRoomForPin) := aQ.at 18 (by decide +kernel) (by decide +kernel)
theorem cb_X6_shareOf : aCb mX6_shareOf 1 := ⟨cd_X6_shareOf, ini_X6, ⟨by decide +kernel, by decide +kernel⟩, by decide +kernel⟩
theorem iv_X6_shareOf : aQ (.instanceMethod yX6_shareOf) := aQ.at 229 (by decide +kernel) (by decide +kernel)
theorem sl_X6_shareOf : aQ (.selects (yX6_shareOf).cls yX6_shareOf yX6_shareOf) := aQ.at 0 (by decide +kernel) (by decide +kernel)
theorem cb_X6_lookUp : aCb mX6_lookUp 1 := ⟨cd_X6_lookUp, ini_X6, ⟨by decide +kernel, by decide +kernel⟩, by decide +kernel⟩
theorem iv_X6_lookUp : aQ (.instanceMethod yX6_lookUp) := aQ.at 604 (by decide +kernel) (by decide +kernel)
theorem sl_X6_lookUp : aQ (.selects (yX6_lookUp).cls yX6_lookUp yX6_lookUp) := aQ.at 8 (by decide +kernel) (by decide +kernel)
theorem cb_X6_remainder : aCb mX6_remainder 2 := ⟨cd_X6_remainder, ini_X6, ⟨by decide +kernel, by decide +kernel⟩, by decide +kernel⟩
theorem st_X6_remainder : aQ (.static yX6_remainder) := aQ.at 487 (by decide +kernel) (by decide +kernel)
theorem cb_X7_init : aCb mX7_init 0 := ⟨cd_X7_init, ini_X7, ⟨by decide +kernel, by decide +kernel⟩, by decide +kernel⟩
theorem iv_X7_init : aQ (.instanceMethod yX7_init) := aQ.at 821 (by decide +kernel) (by decide +kernel)
theorem cb_X7_thrown : aCb mX7_thrown 0 := ⟨cd_X7_thrown, ini_X7, ⟨by decide +kernel, by decide +kernel⟩, by decide +kernel⟩
theorem iv_X7_thrown : aQ (.instanceMethod yX7_thrown) := aQ.at 905 (by decide +kernel) (by decide +kernel)
theorem sl_X7_thrown : aQ (.selects (yX7_thrown).cls yX7_thrown yX7_thrown) := aQ.at 906 (by decide +kernel) (by decide +kernel)
theorem cb_X7_in : aCb mX7_in 3 := ⟨cd_X7_in, ini_X7, ⟨by decide +kernel, by decide +kernel⟩, by decide +kernel⟩
theorem st_X7_in : aQ (.static yX7_in) := aQ.at 915 (by decide +kernel) (by decide +kernel)
theorem cb_X7_isRefused : aCb mX7_isRefused 2 := ⟨cd_X7_isRefused, ini_X7, ⟨by decide +kernel, by decide +kernel⟩, by decide +kernel⟩
theorem iv_X7_isRefused : aQ (.instanceMethod yX7_isRefused) := aQ.at 922 (by decide +kernel) (by decide +kernel)
theorem sl_X7_isRefused : aQ (.selects (yX7_isRefused).cls yX7_isRefused yX7_isRefused) := aQ.at 21 (by decide +kernel) (by decide +kernel)
theorem cb_X7_begins : aCb mX7_begins 1 := ⟨cd_X7_begins, ini_X7, ⟨by decide +kernel, by decide +kernel⟩, by decide +kernel⟩
theorem iv_X7_begins : aQ (.instanceMethod yX7_begins) := aQ.at 826 (by decide +kernel) (by decide +kernel)
theorem sl_X7_begins : aQ (.selects (yX7_begins).cls yX7_begins yX7_begins) := aQ.at 20 (by decide +kernel) (by decide +kernel)
theorem cb_X7_noServer : aCb mX7_noServer 1 := ⟨cd_X7_noServer, ini_X7, ⟨by decide +kernel, by decide +kernel⟩, by decide +kernel⟩
theorem iv_X7_noServer : aQ (.instanceMethod yX7_noServer) := aQ.at 1006 (by decide +kernel) (by decide +kernel)
theorem sl_X7_noServer : aQ (.selects (yX7_noServer).cls yX7_noServer yX7_noServer) := aQ.at 33 (by decide +kernel) (by decide +kernel)
theorem cb_X7_noKey : aCb mX7_noKey 1 := ⟨cd_X7_noKey, ini_X7, ⟨by decide +kernel, by decide +kernel⟩, by decide +kernel⟩
theorem st_X7_noKey : aQ (.static yX7_noKey) := aQ.at 1046 (by decide +kernel) (by decide +kernel)
theorem cb_X7_preferred : aCb mX7_preferred 2 := ⟨cd_X7_preferred, ini_X7, ⟨by decide +kernel, by decide +kernel⟩, by decide +kernel⟩
theorem iv_X7_preferred : aQ (.instanceMethod yX7_preferred) := aQ.at 970 (by decide +kernel) (by decide +kernel)
theorem sl_X7_preferred : aQ (.selects (yX7_preferred).cls yX7_preferred yX7_preferred) := aQ.at 28 (by decide +kernel) (by decide +kernel)
theorem cb_X7_takes : aCb mX7_takes 1 := ⟨cd_X7_takes, ini_X7, ⟨by decide +kernel, by decide +kernel⟩, by decide +kernel⟩
theorem iv_X7_takes : aQ (.instanceMethod yX7_takes) := aQ.at 966 (by decide +kernel) (by decide +kernel)
theorem sl_X7_takes : aQ (.selects (yX7_takes).cls yX7_takes yX7_takes) := aQ.at 27 (by decide +kernel) (by decide +kernel)
theorem cb_X7_builds : aCb mX7_builds 0 := ⟨cd_X7_builds, ini_X7, ⟨by decide +kernel, by decide +kernel⟩, by decide +kernel⟩
theorem iv_X7_builds : aQ (.instanceMethod yX7_builds) := aQ.at 962 (by decide +kernel) (by decide +kernel)
theorem sl_X7_builds : aQ (.selects (yX7_builds).cls yX7_builds yX7_builds) := aQ.at 26 (by decide +kernel) (by decide +kernel)
theorem cb_X7_remembers : aCb mX7_remembers 0 := ⟨cd_X7_remembers, ini_X7, ⟨by decide +kernel, by decide +kernel⟩, by decide +kernel⟩
theorem iv_X7_remembers : aQ (.instanceMethod yX7_remembers) := aQ.at 958 (by decide +kernel) (by decide +kernel)
theorem sl_X7_remembers : aQ (.selects (yX7_remembers).cls yX7_remembers yX7_remembers) := aQ.at 25 (by decide +kernel) (by decide +kernel)
theorem cb_X7_differing : aCb mX7_differing 0 := ⟨cd_X7_differing, ini_X7, ⟨by decide +kernel, by decide +kernel⟩, by decide +kernel⟩
theorem iv_X7_differing : aQ (.instanceMethod yX7_differing) := aQ.at 974 (by decide +kernel) (by decide +kernel)
theorem sl_X7_differing : aQ (.selects (yX7_differing).cls yX7_differing yX7_differing) := aQ.at 29 (by decide +kernel) (by decide +kernel)
theorem cb_X7_comesAnew : aCb mX7_comesAnew 0 := ⟨cd_X7_comesAnew, ini_X7, ⟨by decide +kernel, by decide +kernel⟩, by decide +kernel⟩
theorem iv_X7_comesAnew : aQ (.instanceMethod yX7_comesAnew) := aQ.at 954 (by decide +kernel) (by decide +kernel)
theorem sl_X7_comesAnew : aQ (.selects (yX7_comesAnew).cls yX7_comesAnew yX7_comesAnew) := aQ.at 24 (by decide +kernel) (by decide +kernel)
theorem cb_X7_isPrime : aCb mX7_isPrime 1 := ⟨cd_X7_isPrime, ini_X7, ⟨by decide +kernel, by decide +kernel⟩, by decide +kernel⟩
theorem st_X7_isPrime : aQ (.static yX7_isPrime) := aQ.at 918 (by decide +kernel) (by decide +kernel)
theorem cb_X7_reset : aCb mX7_reset 1 := ⟨cd_X7_reset, ini_X7, ⟨by decide +kernel, by decide +kernel⟩, by decide +kernel⟩
theorem iv_X7_reset : aQ (.instanceMethod yX7_reset) := aQ.at 909 (by decide +kernel) (by decide +kernel)
theorem sl_X7_reset : aQ (.selects (yX7_reset).cls yX7_reset yX7_reset) := aQ.at 910 (by decide +kernel) (by decide +kernel)
theorem cb_X7_serverAt : aCb mX7_serverAt 1 := ⟨cd_X7_serverAt, ini_X7, ⟨by decide +kernel, by decide +kernel⟩, by decide +kernel⟩
theorem iv_X7_serverAt : aQ (.instanceMethod yX7_serverAt) := aQ.at 925 (by decide +kernel) (by decide +kernel)
theorem sl_X7_serverAt : aQ (.selects (yX7_serverAt).cls yX7_serverAt yX7_serverAt) := aQ.at 926 (by decide +kernel) (by decide +kernel)
theorem cb_X7_disruption : aCb mX7_disruption 0 := ⟨cd_X7_disruption, ini_X7, ⟨by decide +kernel, by decide +kernel⟩, by decide +kernel⟩
theorem iv_X7_disruption : aQ (.instanceMethod yX7_disruption) := aQ.at 929 (by decide +kernel) (by decide +kernel)
theorem sl_X7_disruption : aQ (.selects (yX7_disruption).cls yX7_disruption yX7_disruption) := aQ.at 930 (by decide +kernel) (by decide +kernel)
theorem cb_X7_forcedDisruption : aCb mX7_forcedDisruption 0 := ⟨cd_X7_forcedDisruption, ini_X7, ⟨by decide +kernel, by decide +kernel⟩, by decide +kernel⟩
theorem iv_X7_forcedDisruption : aQ (.instanceMethod yX7_forcedDisruption) := aQ.at 933 (by decide +kernel) (by decide +kernel)
theorem sl_X7_forcedDisruption : aQ (.selects (yX7_forcedDisruption).cls yX7_forcedDisruption yX7_forcedDisruption) := aQ.at 934 (by decide +kernel) (by decide +kernel)
theorem cb_X7_slotsNow : aCb mX7_slotsNow 1 := ⟨cd_X7_slotsNow, ini_X7, ⟨by decide +kernel, by decide +kernel⟩, by decide +kernel⟩
theorem iv_X7_slotsNow : aQ (.instanceMethod yX7_slotsNow) := aQ.at 942 (by decide +kernel) (by decide +kernel)
theorem sl_X7_slotsNow : aQ (.selects (yX7_slotsNow).cls yX7_slotsNow yX7_slotsNow) := aQ.at 22 (by decide +kernel) (by decide +kernel)
theorem cb_X7_ideal : aCb mX7_ideal 1 := ⟨cd_X7_ideal, ini_X7, ⟨by decide +kernel, by decide +kernel⟩, by decide +kernel⟩
theorem iv_X7_ideal : aQ (.instanceMethod yX7_ideal) := aQ.at 946 (by decide +kernel) (by decide +kernel)
theorem sl_X7_ideal : aQ (.selects (yX7_ideal).cls yX7_ideal yX7_ideal) := aQ.at 23 (by decide +kernel) (by decide +kernel)
theorem cb_X7_imbalance : aCb mX7_imbalance 0 := ⟨cd_X7_imbalance, ini_X7, ⟨by decide +kernel, by decide +kernel⟩, by decide +kernel⟩
theorem iv_X7_imbalance : aQ (.instanceMethod yX7_imbalance) := aQ.at 937 (by decide +kernel) (by decide +kernel)
theorem sl_X7_imbalance : aQ (.selects (yX7_imbalance).cls yX7_imbalance yX7_imbalance) := aQ.at 938 (by decide +kernel) (by decide +kernel)
theorem cb_X7_keeps : aCb mX7_keeps 0 := ⟨cd_X7_keeps, ini_X7, ⟨by decide +kernel, by decide +kernel⟩, by decide +kernel⟩
theorem iv_X7_keeps : aQ (.instanceMethod yX7_keeps) := aQ.at 998 (by decide +kernel) (by decide +kernel)
theorem sl_X7_keeps : aQ (.selects (yX7_keeps).cls yX7_keeps yX7_keeps) := aQ.at 32 (by decide +kernel) (by decide +kernel)
theorem cb_X7_undo : aCb mX7_undo 0 := ⟨cd_X7_undo, ini_X7, ⟨by decide +kernel, by decide +kernel⟩, by decide +kernel⟩
theorem iv_X7_undo : aQ (.instanceMethod yX7_undo) := aQ.at 949 (by decide +kernel) (by decide +kernel)
theorem sl_X7_undo : aQ (.selects (yX7_undo).cls yX7_undo yX7_undo) := aQ.at 950 (by decide +kernel) (by decide +kernel)
theorem cb_X7_named : aCb mX7_named 1 := ⟨cd_X7_named, ini_X7, ⟨by decide +kernel, by decide +kernel⟩, by decide +kernel⟩
theorem iv_X7_named : aQ (.instanceMethod yX7_named) := aQ.at 990 (by decide +kernel) (by decide +kernel)
theorem sl_X7_named : aQ (.selects (yX7_named).cls yX7_named yX7_named) := aQ.at 30 (by decide +kernel) (by decide +kernel)
theorem cb_X7_noName : aCb mX7_noName 1 := ⟨cd_X7_noName, ini_X7, ⟨by decide +kernel, by decide +kernel⟩, by decide +kernel⟩
theorem st_X7_noName : aQ (.static yX7_noName) := aQ.at 981 (by decide +kernel) (by decide +kernel)
theorem cb_X7_noWeight : aCb mX7_noWeight 1 := ⟨cd_X7_noWeight, ini_X7, ⟨by decide +kernel, by decide +kernel⟩, by decide +kernel⟩
theorem st_X7_noWeight : aQ (.static yX7_noWeight) := aQ.at 985 (by decide +kernel) (by decide +kernel)
theorem cb_X7_count : aCb mX7_count 0 := ⟨cd_X7_count, ini_X7, ⟨by decide +kernel, by decide +kernel⟩, by decide +kernel⟩
theorem iv_X7_count : aQ (.instanceMethod yX7_count) := aQ.at 994 (by decide +kernel) (by decide +kernel)
theorem sl_X7_count : aQ (.selects (yX7_count).cls yX7_count yX7_count) := aQ.at 31 (by decide +kernel) (by decide +kernel)
theorem cb_X7_addServer : aCb mX7_addServer 2 := ⟨cd_X7_addServer, ini_X7, ⟨by decide +kernel, by decide +kernel⟩, by decide +kernel⟩
theorem iv_X7_addServer : aQ (.instanceMethod yX7_addServer) := aQ.at 977 (by decide +kernel) (by decide +kernel)
theorem sl_X7_addServer : aQ (.selects (yX7_addServer).cls yX7_addServer yX7_addServer) := aQ.at 978 (by decide +kernel) (by decide +kernel)
theorem cb_X7_removeServer : aCb mX7_removeServer 1 := ⟨cd_X7_removeServer, ini_X7, ⟨by decide +kernel, by decide +kernel⟩, by decide +kernel⟩
theorem iv_X7_removeServer : aQ (.instanceMethod yX7_removeServer) := aQ.at 1001 (by decide +kernel) (by decide +kernel)
theorem sl_X7_removeServer : aQ (.selects (yX7_removeServer).cls yX7_removeServer yX7_removeServer) := aQ.at 1002 (by decide +kernel) (by decide +kernel)
theorem cb_X7_setWeight : aCb mX7_setWeight 2 := ⟨cd_X7_setWeight, ini_X7, ⟨by decide +kernel, by decide +kernel⟩, by decide +kernel⟩
theorem iv_X7_setWeight : aQ (.instanceMethod yX7_setWeight) := aQ.at 1010 (by decide +kernel) (by decide +kernel)
theorem sl_X7_setWeight : aQ (.selects (yX7_setWeight).cls yX7_setWeight yX7_setWeight) := aQ.at 1011 (by decide +kernel) (by decide +kernel)
theorem cb_X7_setUp : aCb mX7_setUp 2 := ⟨cd_X7_setUp, ini_X7, ⟨by decide +kernel, by decide +kernel⟩, by decide +kernel⟩
theorem iv_X7_setUp : aQ (.instanceMethod yX7_setUp) := aQ.at 1014 (by decide +kernel) (by decide +kernel)
theorem sl_X7_setUp : aQ (.selects (yX7_setUp).cls yX7_setUp yX7_setUp) := aQ.at 1015 (by decide +kernel) (by decide +kernel)
theorem cb_X7_serverCount : aCb mX7_serverCount 0 := ⟨cd_X7_serverCount, ini_X7, ⟨by decide +kernel, by decide +kernel⟩, by decide +kernel⟩
theorem iv_X7_serverCount : aQ (.instanceMethod yX7_serverCount) := aQ.at 1018 (by decide +kernel) (by decide +kernel)
theorem sl_X7_serverCount : aQ (.selects (yX7_serverCount).cls yX7_serverCount yX7_serverCount) := aQ.at 1019 (by decide +kernel) (by decide +kernel)
theorem cb_X7_serverNamed : aCb mX7_serverNamed 1 := ⟨cd_X7_serverNamed, ini_X7, ⟨by decide +kernel, by decide +kernel⟩, by decide +kernel⟩
theorem iv_X7_serverNamed : aQ (.instanceMethod yX7_serverNamed) := aQ.at 1022 (by decide +kernel) (by decide +kernel)
theorem sl_X7_serverNamed : aQ (.selects (yX7_serverNamed).cls yX7_serverNamed yX7_serverNamed) := aQ.at 1023 (by decide +kernel) (by decide +kernel)
theorem cb_X7_preference : aCb mX7_preference 2 := ⟨cd_X7_preference, ini_X7, ⟨by decide +kernel, by decide +kernel⟩, by decide +kernel⟩
theorem iv_X7_preference : aQ (.instanceMethod yX7_preference) := aQ.at 1026 (by decide +kernel) (by decide +kernel)
theorem sl_X7_preference : aQ (.selects (yX7_preference).cls yX7_preference yX7_preference) := aQ.at 1027 (by decide +kernel) (by decide +kernel)
theorem cb_X7_slotsOf : aCb mX7_slotsOf 1 := ⟨cd_X7_slotsOf, ini_X7, ⟨by decide +kernel, by decide +kernel⟩, by decide +kernel⟩
theorem iv_X7_slotsOf : aQ (.instanceMethod yX7_slotsOf) := aQ.at 1030 (by decide +kernel) (by decide +kernel)
theorem sl_X7_slotsOf : aQ (.selects (yX7_slotsOf).cls yX7_slotsOf yX7_slotsOf) := aQ.at 1031 (by decide +kernel) (by decide +kernel)
theorem cb_X7_idealShare : aCb mX7_idealShare 1 := ⟨cd_X7_idealShare, ini_X7, ⟨by decide +kernel, by decide +kernel⟩, by decide +kernel⟩
theorem iv_X7_idealShare : aQ (.instanceMethod yX7_idealShare) := aQ.at 1034 (by decide +kernel) (by decide +kernel)
theorem sl_X7_idealShare : aQ (.selects (yX7_idealShare).cls yX7_idealShare yX7_idealShare) := aQ.at 1035 (by decide +kernel) (by decide +kernel)
theorem cb_X7_removalDisruption : aCb mX7_removalDisruption 1 := ⟨cd_X7_removalDisruption, ini_X7, ⟨by decide +kernel, by decide +kernel⟩, by decide +kernel⟩
theorem iv_X7_removalDisruption : aQ (.instanceMethod yX7_removalDisruption) := aQ.at 1038 (by decide +kernel) (by decide +kernel)
theorem sl_X7_removalDisruption : aQ (.selects (yX7_removalDisruption).cls yX7_removalDisruption yX7_removalDisruption) := aQ.at 1039 (by decide +kernel) (by decide +kernel)
theorem cb_X7_pinOf : aCb mX7_pinOf 1 := ⟨cd_X7_pinOf, ini_X7, ⟨by decide +kernel, by decide +kernel⟩, by decide +kernel⟩
theorem iv_X7_pinOf : aQ (.instanceMethod yX7_pinOf) := aQ.at 1055 (by decide +kernel) (by decide +kernel)
theorem sl_X7_pinOf : aQ (.selects (yX7_pinOf).cls yX7_pinOf yX7_pinOf) := aQ.at 35 (by decide +kernel) (by decide +kernel)
theorem cb_X7_at : aCb mX7_at 1 := ⟨cd_X7_at, ini_X7, ⟨by decide +kernel, by decide +kernel⟩, by decide +kernel⟩
theorem iv_X7_at : aQ (.instanceMethod yX7_at) := aQ.at 1051 (by decide +kernel) (by decide +kernel)
theorem sl_X7_at : aQ (.selects (yX7_at).cls yX7_at yX7_at) := aQ.at 34 (by decide +kernel) (by decide +kernel)
theorem cb_X7_serverOf : aCb mX7_serverOf 1 := ⟨cd_X7_serverOf, ini_X7, ⟨by decide +kernel, by decide +kernel⟩, by decide +kernel⟩
theorem iv_X7_serverOf : aQ (.instanceMethod yX7_serverOf) := aQ.at 1042 (by decide +kernel) (by decide +kernel)
theorem sl_X7_serverOf : aQ (.selects (yX7_serverOf).cls yX7_serverOf yX7_serverOf) := aQ.at 1043 (by decide +kernel) (by decide +kernel)
theorem cb_X7_tracks : aCb mX7_tracks 2 := ⟨cd_X7_tracks, ini_X7, ⟨by decide +kernel, by decide +kernel⟩, by decide +kernel⟩
theorem iv_X7_tracks : aQ (.instanceMethod yX7_tracks) := aQ.at 1067 (by decide +kernel) (by decide +kernel)
theorem sl_X7_tracks : aQ (.selects (yX7_tracks).cls yX7_tracks yX7_tracks) := aQ.at 36 (by decide +kernel) (by decide +kernel)
theorem cb_X7_request : aCb mX7_request 2 := ⟨cd_X7_request, ini_X7, ⟨by decide +kernel, by decide +kernel⟩, by decide +kernel⟩
theorem iv_X7_request : aQ (.instanceMethod yX7_request) := aQ.at 1061 (by decide +kernel) (by decide +kernel)
theorem sl_X7_request : aQ (.selects (yX7_request).cls yX7_request yX7_request) := aQ.at 1062 (by decide +kernel) (by decide +kernel)
theorem cb_X7_loadOf : aCb mX7_loadOf 1 := ⟨cd_X7_loadOf, ini_X7, ⟨by decide +kernel, by decide +kernel⟩, by decide +kernel⟩
theorem iv_X7_loadOf : aQ (.instanceMethod yX7_loadOf) := aQ.at 1070 (by decide +kernel) (by decide +kernel)
theorem sl_X7_loadOf : aQ (.selects (yX7_loadOf).cls yX7_loadOf yX7_loadOf) := aQ.at 1071 (by decide +kernel) (by decide +kernel)
theorem cb_X7_ranked : aCb mX7_ranked 1 := ⟨cd_X7_ranked, ini_X7, ⟨by decide +kernel, by decide +kernel⟩, by decide +kernel⟩
theorem iv_X7_ranked : aQ (.instanceMethod yX7_ranked) := aQ.at 1083 (by decide +kernel) (by decide +kernel)
theorem sl_X7_ranked : aQ (.selects (yX7_ranked).cls yX7_ranked yX7_ranked) := aQ.at 38 (by decide +kernel) (by decide +kernel)
theorem cb_X7_ups : aCb mX7_ups 0 := ⟨cd_X7_ups, ini_X7, ⟨by decide +kernel, by decide +kernel⟩, by decide +kernel⟩
theorem iv_X7_ups : aQ (.instanceMethod yX7_ups) := aQ.at 1079 (by decide +kernel) (by decide +kernel)
theorem sl_X7_ups : aQ (.selects (yX7_ups).cls yX7_ups yX7_ups) := aQ.at 37 (by decide +kernel) (by decide +kernel)
theorem cb_X7_rankedServer : aCb mX7_rankedServer 1 := ⟨cd_X7_rankedServer, ini_X7, ⟨by decide +kernel, by decide +kernel⟩, by decide +kernel⟩
theorem iv_X7_rankedServer : aQ (.instanceMethod yX7_rankedServer) := aQ.at 1074 (by decide +kernel) (by decide +kernel)
theorem sl_X7_rankedServer : aQ (.selects (yX7_rankedServer).cls yX7_rankedServer yX7_rankedServer) := aQ.at 1075 (by decide +kernel) (by decide +kernel)
theorem cb_X7_pinsTo : aCb mX7_pinsTo 2 := ⟨cd_X7_pinsTo, ini_X7, ⟨by decide +kernel, by decide +kernel⟩, by decide +kernel⟩
theorem iv_X7_pinsTo : aQ (.instanceMethod yX7_pinsTo) := aQ.at 1095 (by decide +kernel) (by decide +kernel)
theorem sl_X7_pinsTo : aQ (.selects (yX7_pinsTo).cls yX7_pinsTo yX7_pinsTo) := aQ.at 40 (by decide +kernel) (by decide +kernel)
theorem cb_X7_noRoom : aCb mX7_noRoom 1 := ⟨cd_X7_noRoom, ini_X7, ⟨by decide +kernel, by decide +kernel⟩, by decide +kernel⟩
theorem iv_X7_noRoom : aQ (.instanceMethod yX7_noRoom) := aQ.at 1091 (by decide +kernel) (by decide +kernel)
theorem sl_X7_noRoom : aQ (.selects (yX7_noRoom).cls yX7_noRoom yX7_noRoom) := aQ.at 39 (by decide +kernel) (by decide +kernel)
theorem cb_X7_pin : aCb mX7_pin 2 := ⟨cd_X7_pin, ini_X7, ⟨by decide +kernel, by decide +kernel⟩, by decide +kernel⟩
theorem iv_X7_pin : aQ (.instanceMethod yX7_pin) := aQ.at 1086 (by decide +kernel) (by decide +kernel)
theorem sl_X7_pin : aQ (.selects (yX7_pin).cls yX7_pin yX7_pin) := aQ.at 1087 (by decide +kernel) (by decide +kernel)
theorem cb_X7_unpin : aCb mX7_unpin 1 := ⟨cd_X7_unpin, ini_X7, ⟨by decide +kernel, by decide +kernel⟩, by decide +kernel⟩
theorem iv_X7_unpin : aQ (.instanceMethod yX7_unpin) := aQ.at 1098 (by decide +kernel) (by decide +kernel)
theorem sl_X7_unpin : aQ (.selects (yX7_unpin).cls yX7_unpin yX7_unpin) := aQ.at 1099 (by decide +kernel) (by decide +kernel)
theorem cb_X7_listed : aCb mX7_listed 1 := ⟨cd_X7_listed, ini_X7, ⟨by decide +kernel, by decide +kernel⟩, by decide +kernel⟩
theorem iv_X7_listed : aQ (.instanceMethod yX7_listed) := aQ.at 1107 (by decide +kernel) (by decide +kernel)
theorem sl_X7_listed : aQ (.selects (yX7_listed).cls yX7_listed yX7_listed) := aQ.at 41 (by decide +kernel) (by decide +kernel)
theorem cb_X7_pinHottest : aCb mX7_pinHottest 0 := ⟨cd_X7_pinHottest, ini_X7, ⟨by decide +kernel, by decide +kernel⟩, by decide +kernel⟩
theorem iv_X7_pinHottest : aQ (.instanceMethod yX7_pinHottest) := aQ.at 1102 (by decide +kernel) (by decide +kernel)
theorem sl_X7_pinHottest : aQ (.selects (yX7_pinHottest).cls yX7_pinHottest yX7_pinHottest) := aQ.at 1103 (by decide +kernel) (by decide +kernel)
theorem cb_X7_trackedKeys : aCb mX7_trackedKeys 0 := ⟨cd_X7_trackedKeys, ini_X7, ⟨by decide +kernel, by decide +kernel⟩, by decide +kernel⟩
theorem iv_X7_trackedKeys : aQ (.instanceMethod yX7_trackedKeys) := aQ.at 1110 (by decide +kernel) (by decide +kernel)
theorem sl_X7_trackedKeys : aQ (.selects (yX7_trackedKeys).cls yX7_trackedKeys yX7_trackedKeys) := aQ.at 1111 (by decide +kernel) (by decide +kernel)
theorem cb_X7_noEntry : aCb mX7_noEntry 1 := ⟨cd_X7_noEntry, ini_X7, ⟨by decide +kernel, by decide +kernel⟩, by decide +kernel⟩
theorem iv_X7_noEntry : aQ (.instanceMethod yX7_noEntry) := aQ.at 1119 (by decide +kernel) (by decide +kernel)
theorem sl_X7_noEntry : aQ (.selects (yX7_noEntry).cls yX7_noEntry yX7_noEntry) := aQ.at 42 (by decide +kernel) (by decide +kernel)
theorem cb_X7_hotKey : aCb mX7_hotKey 1 := ⟨cd_X7_hotKey, ini_X7, ⟨by decide +kernel, by decide +kernel⟩, by decide +kernel⟩
theorem iv_X7_hotKey : aQ (.instanceMethod yX7_hotKey) := aQ.at 1114 (by decide +kernel) (by decide +kernel)
theorem sl_X7_hotKey : aQ (.selects (yX7_hotKey).cls yX7_hotKey yX7_hotKey) := aQ.at 1115 (by decide +kernel) (by decide +kernel)
theorem cb_X7_hotCount : aCb mX7_hotCount 1 := ⟨cd_X7_hotCount, ini_X7, ⟨by decide +kernel, by decide +kernel⟩, by decide +kernel⟩
theorem iv_X7_hotCount : aQ (.instanceMethod yX7_hotCount) := aQ.at 1122 (by decide +kernel) (by decide +kernel)
theorem sl_X7_hotCount : aQ (.selects (yX7_hotCount).cls yX7_hotCount yX7_hotCount) := aQ.at 1123 (by decide +kernel) (by decide +kernel)
theorem cb_X7_hotError : aCb mX7_hotError 1 := ⟨cd_X7_hotError, ini_X7, ⟨by decide +kernel, by decide +kernel⟩, by decide +kernel⟩
theorem iv_X7_hotError : aQ (.instanceMethod yX7_hotError) := aQ.at 1126 (by decide +kernel) (by decide +kernel)
theorem sl_X7_hotError : aQ (.selects (yX7_hotError).cls yX7_hotError yX7_hotError) := aQ.at 1127 (by decide +kernel) (by decide +kernel)
theorem cb_J9_max_7cf53 : aCb mJ9_max_7cf53 2 := ⟨cd_J9_max_7cf53, ini_J9, ⟨by decide +kernel, by decide +kernel⟩, by decide +kernel⟩
theorem st_J9_max_7cf53 : aQ (.static yJ9_max_7cf53) := aQ.at 467 (by decide +kernel) (by decide +kernel)
theorem cb_J9_min_7cf53 : aCb mJ9_min_7cf53 2 := ⟨cd_J9_min_7cf53, ini_J9, ⟨by decide +kernel, by decide +kernel⟩, by decide +kernel⟩
theorem st_J9_min_7cf53 : aQ (.static yJ9_min_7cf53) := aQ.at 117 (by decide +kernel) (by decide +kernel)
theorem cb_J7_fill_53178 : aCb mJ7_fill_53178 2 := ⟨cd_J7_fill_53178, ini_J7, ⟨by decide +kernel, by decide +kernel⟩, by decide +kernel⟩
theorem st_J7_fill_53178 : aQ (.static yJ7_fill_53178) := aQ.at 120 (by decide +kernel) (by decide +kernel)
theorem cb_L_reset : aCb mL_reset 3 := ⟨cd_L_reset, ini_L, ⟨by decide +kernel, by decide +kernel⟩, by decide +kernel⟩
theorem st_L_reset : aQ (.static yL_reset) := aQ.at 276 (by decide +kernel) (by decide +kernel)
theorem cb_L_serverAt : aCb mL_serverAt 3 := ⟨cd_L_serverAt, ini_L, ⟨by decide +kernel, by decide +kernel⟩, by decide +kernel⟩
theorem st_L_serverAt : aQ (.static yL_serverAt) := aQ.at 375 (by decide +kernel) (by decide +kernel)
theorem cb_L_addServer : aCb mL_addServer 4 := ⟨cd_L_addServer, ini_L, ⟨by decide +kernel, by decide +kernel⟩, by decide +kernel⟩
theorem st_L_addServer : aQ (.static yL_addServer) := aQ.at 392 (by decide +kernel) (by decide +kernel)
theorem cb_L_removeServer : aCb mL_removeServer 3 := ⟨cd_L_removeServer, ini_L, ⟨by decide +kernel, by decide +kernel⟩, by decide +kernel⟩
theorem st_L_removeServer : aQ (.static yL_removeServer) := aQ.at 498 (by decide +kernel) (by decide +kernel)
theorem cb_L_setWeight : aCb mL_setWeight 4 := ⟨cd_L_setWeight, ini_L, ⟨by decide +kernel, by decide +kernel⟩, by decide +kernel⟩
theorem st_L_setWeight : aQ (.static yL_setWeight) := aQ.at 527 (by decide +kernel) (by decide +kernel)
theorem cb_L_setUp : aCb mL_setUp 4 := ⟨cd_L_setUp, ini_L, ⟨by decide +kernel, by decide +kernel⟩, by decide +kernel⟩
theorem st_L_setUp : aQ (.static yL_setUp) := aQ.at 538 (by decide +kernel) (by decide +kernel)
theorem cb_L_serverNamed : aCb mL_serverNamed 3 := ⟨cd_L_serverNamed, ini_L, ⟨by decide +kernel, by decide +kernel⟩, by decide +kernel⟩
theorem st_L_serverNamed : aQ (.static yL_serverNamed) := aQ.at 549 (by decide +kernel) (by decide +kernel)
theorem cb_L_preference : aCb mL_preference 4 := ⟨cd_L_preference, ini_L, ⟨by decide +kernel, by decide +kernel⟩, by decide +kernel⟩
theorem st_L_preference : aQ (.static yL_preference) := aQ.at 556 (by decide +kernel) (by decide +kernel)
theorem cb_L_slotsOf : aCb mL_slotsOf 3 := ⟨cd_L_slotsOf, ini_L, ⟨by decide +kernel, by decide +kernel⟩, by decide +kernel⟩
theorem st_L_slotsOf : aQ (.static yL_slotsOf) := aQ.at 566 (by decide +kernel) (by decide +kernel)
theorem cb_L_idealShare : aCb mL_idealShare 3 := ⟨cd_L_idealShare, ini_L, ⟨by decide +kernel, by decide +kernel⟩, by decide +kernel⟩
theorem st_L_idealShare : aQ (.static yL_idealShare) := aQ.at 573 (by decide +kernel) (by decide +kernel)
theorem cb_L_removalDisruption : aCb mL_removalDisruption 3 := ⟨cd_L_removalDisruption, ini_L, ⟨by decide +kernel, by decide +kernel⟩, by decide +kernel⟩
theorem st_L_removalDisruption : aQ (.static yL_removalDisruption) := aQ.at 580 (by decide +kernel) (by decide +kernel)
theorem cb_L_serverOf : aCb mL_serverOf 3 := ⟨cd_L_serverOf, ini_L, ⟨by decide +kernel, by decide +kernel⟩, by decide +kernel⟩
theorem st_L_serverOf : aQ (.static yL_serverOf) := aQ.at 591 (by decide +kernel) (by decide +kernel)
theorem cb_L_request : aCb mL_request 4 := ⟨cd_L_request, ini_L, ⟨by decide +kernel, by decide +kernel⟩, by decide +kernel⟩
theorem st_L_request : aQ (.static yL_request) := aQ.at 618 (by decide +kernel) (by decide +kernel)
theorem cb_L_loadOf : aCb mL_loadOf 3 := ⟨cd_L_loadOf, ini_L, ⟨by decide +kernel, by decide +kernel⟩, by decide +kernel⟩
theorem st_L_loadOf : aQ (.static yL_loadOf) := aQ.at 675 (by decide +kernel) (by decide +kernel)
theorem cb_L_rankedServer : aCb mL_rankedServer 3 := ⟨cd_L_rankedServer, ini_L, ⟨by decide +kernel, by decide +kernel⟩, by decide +kernel⟩
theorem st_L_rankedServer : aQ (.static yL_rankedServer) := aQ.at 682 (by decide +kernel) (by decide +kernel)
theorem cb_L_pin : aCb mL_pin 4 := ⟨cd_L_pin, ini_L, ⟨by decide +kernel, by decide +kernel⟩, by decide +kernel⟩
theorem st_L_pin : aQ (.static yL_pin) := aQ.at 724 (by decide +kernel) (by decide +kernel)
theorem cb_L_unpin : aCb mL_unpin 3 := ⟨cd_L_unpin, ini_L, ⟨by decide +kernel, by decide +kernel⟩, by decide +kernel⟩
theorem st_L_unpin : aQ (.static yL_unpin) := aQ.at 748 (by decide +kernel) (by decide +kernel)
theorem cb_L_pinHottest : aCb mL_pinHottest 2 := ⟨cd_L_pinHottest, ini_L, ⟨by decide +kernel, by decide +kernel⟩, by decide +kernel⟩
theorem st_L_pinHottest : aQ (.static yL_pinHottest) := aQ.at 756 (by decide +kernel) (by decide +kernel)
theorem cb_L_hotKey : aCb mL_hotKey 3 := ⟨cd_L_hotKey, ini_L, ⟨by decide +kernel, by decide +kernel⟩, by decide +kernel⟩
theorem st_L_hotKey : aQ (.static yL_hotKey) := aQ.at 766 (by decide +kernel) (by decide +kernel)
theorem cb_L_hotCount : aCb mL_hotCount 3 := ⟨cd_L_hotCount, ini_L, ⟨by decide +kernel, by decide +kernel⟩, by decide +kernel⟩
theorem st_L_hotCount : aQ (.static yL_hotCount) := aQ.at 779 (by decide +kernel) (by decide +kernel)
theorem cb_L_hotError : aCb mL_hotError 3 := ⟨cd_L_hotError, ini_L, ⟨by decide +kernel, by decide +kernel⟩, by decide +kernel⟩
theorem st_L_hotError : aQ (.static yL_hotError) := aQ.at 787 (by decide +kernel) (by decide +kernel)
theorem cb_L_undo : aCb mL_undo 2 := ⟨cd_L_undo, ini_L, ⟨by decide +kernel, by decide +kernel⟩, by decide +kernel⟩
theorem st_L_undo : aQ (.static yL_undo) := aQ.at 798 (by decide +kernel) (by decide +kernel)
theorem kl_L_8 : aQ (.classLink RL 8 RX6) := aQ.at 60 (by decide +kernel) (by decide +kernel)
theorem ins_X6 : aQ (.instantiable RX6 5) := aQ.at 61 (by decide +kernel) (by decide +kernel)
theorem ml_L_87 : aQ (.methodLink RL 87 yX6_init) := aQ.at 62 (by decide +kernel) (by decide +kernel)
theorem ml_X6_1 : aQ (.methodLink RX6 1 objectInit) := aQ.at 65 (by decide +kernel) (by decide +kernel)
theorem kl_X6_7 : aQ (.classLink RX6 7 RX0) := aQ.at 68 (by decide +kernel) (by decide +kernel)
theorem ins_X0 : aQ (.instantiable RX0 4) := aQ.at 69 (by decide +kernel) (by decide +kernel)
theorem mn_X6_9 : aQ (.methodLinkNest RX6 9 yX0_init "PreferenceTable") := aQ.at 70 (by decide +kernel) (by decide +kernel)
theorem ml_X0_3 : aQ (.methodLink RX0 3 objectInit) := aQ.at 73 (by decide +kernel) (by decide +kernel)
theorem ar_int : aQ (.arrayClass .int) := aQ.at 87 (by decide +kernel) (by decide +kernel)
theorem ar_boolean : aQ (.arrayClass .boolean) := aQ.at 88 (by decide +kernel) (by decide +kernel)
theorem ar_long : aQ (.arrayClass .long) := aQ.at 89 (by decide +kernel) (by decide +kernel)
theorem kl_X6_16 : aQ (.classLink RX6 16 RX2) := aQ.at 90 (by decide +kernel) (by decide +kernel)
theorem ins_X2 : aQ (.instantiable RX2 3) := aQ.at 91 (by decide +kernel) (by decide +kernel)
theorem mn_X6_18 : aQ (.methodLinkNest RX6 18 yX2_init "PreferenceTable") := aQ.at 92 (by decide +kernel) (by decide +kernel)
theorem ml_X2_3 : aQ (.methodLink RX2 3 objectInit) := aQ.at 95 (by decide +kernel) (by decide +kernel)
theorem kl_X6_23 : aQ (.classLink RX6 23 RX3) := aQ.at 106 (by decide +kernel) (by decide +kernel)
theorem ins_X3 : aQ (.instantiable RX3 6) := aQ.at 107 (by decide +kernel) (by decide +kernel)
theorem ml_X6_25 : aQ (.methodLink RX6 25 yX3_init) := aQ.at 108 (by decide +kernel) (by decide +kernel)
theorem ml_X3_3 : aQ (.methodLink RX3 3 objectInit) := aQ.at 111 (by decide +kernel) (by decide +kernel)
theorem ml_X3_21 : aQ (.methodLink RX3 21 yX3_startAnew) := aQ.at 112 (by decide +kernel) (by decide +kernel)
theorem ml_X3_25 : aQ (.methodLink RX3 25 yJ9_min_7cf53) := aQ.at 116 (by decide +kernel) (by decide +kernel)
theorem mm_X3_25 : aQ (.methodLink RX3 25 Lib.Math.min.name) := aQ.at 116 (by decide +kernel) (by decide +kernel)
theorem ml_X3_35 : aQ (.methodLink RX3 35 yJ7_fill_53178) := aQ.at 119 (by decide +kernel) (by decide +kernel)
theorem kl_X6_32 : aQ (.classLink RX6 32 RX5) := aQ.at 141 (by decide +kernel) (by decide +kernel)
theorem ins_X5 : aQ (.instantiable RX5 4) := aQ.at 142 (by decide +kernel) (by decide +kernel)
theorem mn_X6_34 : aQ (.methodLinkNest RX6 34 yX5_init "PreferenceTable") := aQ.at 143 (by decide +kernel) (by decide +kernel)
theorem ml_X5_3 : aQ (.methodLink RX5 3 objectInit) := aQ.at 146 (by decide +kernel) (by decide +kernel)
theorem kl_X6_39 : aQ (.classLink RX6 39 RX1) := aQ.at 160 (by decide +kernel) (by decide +kernel)
theorem ins_X1 : aQ (.instantiable RX1 2) := aQ.at 161 (by decide +kernel) (by decide +kernel)
theorem ml_X6_41 : aQ (.methodLink RX6 41 yX1_init) := aQ.at 162 (by decide +kernel) (by decide +kernel)
theorem ml_X1_3 : aQ (.methodLink RX1 3 objectInit) := aQ.at 165 (by decide +kernel) (by decide +kernel)
theorem kl_X1_9 : aQ (.classLink RX1 9 RX4) := aQ.at 166 (by decide +kernel) (by decide +kernel)
theorem ins_X4 : aQ (.instantiable RX4 2) := aQ.at 168 (by decide +kernel) (by decide +kernel)
theorem mn_X1_21 : aQ (.methodLinkNest RX1 21 yX4_init "PreferenceTable") := aQ.at 169 (by decide +kernel) (by decide +kernel)
theorem ml_X4_1 : aQ (.methodLink RX4 1 objectInit) := aQ.at 172 (by decide +kernel) (by decide +kernel)
theorem kl_X4_7 : aQ (.classLink RX4 7 RX0) := aQ.at 173 (by decide +kernel) (by decide +kernel)
theorem mn_X4_9 : aQ (.methodLinkNest RX4 9 yX0_init "PreferenceTable") := aQ.at 174 (by decide +kernel) (by decide +kernel)
theorem kl_X4_16 : aQ (.classLink RX4 16 RX2) := aQ.at 175 (by decide +kernel) (by decide +kernel)
theorem mn_X4_18 : aQ (.methodLinkNest RX4 18 yX2_init "PreferenceTable") := aQ.at 176 (by decide +kernel) (by decide +kernel)
theorem ml_L_103 : aQ (.methodLink RL 103 yX6_disruption) := aQ.at 207 (by decide +kernel) (by decide +kernel)
theorem ml_X6_79 : aQ (.methodLink RX6 79 yX3_changedSlots) := aQ.at 211 (by decide +kernel) (by decide +kernel)
theorem ml_L_107 : aQ (.methodLink RL 107 yX6_forcedDisruption) := aQ.at 215 (by decide +kernel) (by decide +kernel)
theorem ml_X6_82 : aQ (.methodLink RX6 82 yX3_forcedSlots) := aQ.at 219 (by decide +kernel) (by decide +kernel)
theorem ml_L_111 : aQ (.methodLink RL 111 yX6_imbalance) := aQ.at 223 (by decide +kernel) (by decide +kernel)
theorem ml_X6_85 : aQ (.methodLink RX6 85 yX6_shareOf) := aQ.at 227 (by decide +kernel) (by decide +kernel)
theorem ml_X6_244 : aQ (.methodLink RX6 244 yX0_weightSum) := aQ.at 231 (by decide +kernel) (by decide +kernel)
theorem ml_X0_39 : aQ (.methodLink RX0 39 yX0_isUp) := aQ.at 235 (by decide +kernel) (by decide +kernel)
theorem ml_X0_36 : aQ (.methodLink RX0 36 yX0_has) := aQ.at 239 (by decide +kernel) (by decide +kernel)
theorem ml_X0_32 : aQ (.methodLink RX0 32 yX0_isNumber) := aQ.at 243 (by decide +kernel) (by decide +kernel)
theorem ml_X6_143 : aQ (.methodLink RX6 143 yX0_isUp) := aQ.at 246 (by decide +kernel) (by decide +kernel)
theorem ml_X6_57 : aQ (.methodLink RX6 57 yX3_size) := aQ.at 247 (by decide +kernel) (by decide +kernel)
theorem ml_X6_136 : aQ (.methodLink RX6 136 yX0_weight) := aQ.at 251 (by decide +kernel) (by decide +kernel)
theorem ml_X6_89 : aQ (.methodLink RX6 89 yX3_ownedBy) := aQ.at 255 (by decide +kernel) (by decide +kernel)
theorem ml_L_130 : aQ (.methodLink RL 130 yX6_serverCount) := aQ.at 259 (by decide +kernel) (by decide +kernel)
theorem ml_X6_150 : aQ (.methodLink RX6 150 yX0_size) := aQ.at 263 (by decide +kernel) (by decide +kernel)
theorem ml_L_172 : aQ (.methodLink RL 172 yX6_trackedKeys) := aQ.at 267 (by decide +kernel) (by decide +kernel)
theorem ml_X6_200 : aQ (.methodLink RX6 200 yX5_size) := aQ.at 271 (by decide +kernel) (by decide +kernel)
theorem ml_L_91 : aQ (.methodLink RL 91 yL_reset) := aQ.at 275 (by decide +kernel) (by decide +kernel)
theorem kl_L_13 : aQ (.classLink RL 13 "java/lang/IllegalArgumentException") := aQ.at 278 (by decide +kernel) (by decide +kernel)
theorem ml_L_7 : aQ (.methodLink RL 7 yX6_reset) := aQ.at 279 (by decide +kernel) (by decide +kernel)
theorem ml_X6_46 : aQ (.methodLink RX6 46 yX6_isSlotCount) := aQ.at 283 (by decide +kernel) (by decide +kernel)
theorem kl_X6_50 : aQ (.classLink RX6 50 "java/lang/IllegalArgumentException") := aQ.at 288 (by decide +kernel) (by decide +kernel)
theorem ca_IllegalArgumentException : aQ (.castable "java/lang/IllegalArgumentException" "java/lang/IllegalArgumentException") := aQ.at 290 (by decide +kernel) (by decide +kernel)
theorem tx_X6_52 : Cond.stringRef RX6 52 "slots is not a prime number from 5 to 61" ∈ lw_tbl := List.mem_of_getElem? (i := 329) (by decide +kernel)
theorem ar_byte : aQ (.arrayClass .byte) := aQ.at 355 (by decide +kernel) (by decide +kernel)
theorem ml_X6_61 : aQ (.methodLink RX6 61 yX0_clear) := aQ.at 356 (by decide +kernel) (by decide +kernel)
theorem ml_X0_26 : aQ (.methodLink RX0 26 yJ7_fill_53178) := aQ.at 360 (by decide +kernel) (by decide +kernel)
theorem ml_X6_64 : aQ (.methodLink RX6 64 yX2_clear) := aQ.at 361 (by decide +kernel) (by decide +kernel)
theorem ml_X6_65 : aQ (.methodLink RX6 65 yX5_clear) := aQ.at 365 (by decide +kernel) (by decide +kernel)
theorem ml_X6_66 : aQ (.methodLink RX6 66 yX1_clear) := aQ.at 369 (by decide +kernel) (by decide +kernel)
theorem ml_X6_67 : aQ (.methodLink RX6 67 yX3_startAnew) := aQ.at 373 (by decide +kernel) (by decide +kernel)
theorem ml_L_100 : aQ (.methodLink RL 100 yL_serverAt) := aQ.at 374 (by decide +kernel) (by decide +kernel)
theorem ml_L_15 : aQ (.methodLink RL 15 yX6_serverAt) := aQ.at 377 (by decide +kernel) (by decide +kernel)
theorem ml_X6_70 : aQ (.methodLink RX6 70 yX3_isSlot) := aQ.at 381 (by decide +kernel) (by decide +kernel)
theorem tx_X6_73 : Cond.stringRef RX6 73 "there is no such slot" ∈ lw_tbl := List.mem_of_getElem? (i := 385) (by decide +kernel)
theorem ml_X6_75 : aQ (.methodLink RX6 75 yX3_owner) := aQ.at 386 (by decide +kernel) (by decide +kernel)
theorem ml_X3_47 : aQ (.methodLink RX3 47 yX3_isSlot) := aQ.at 390 (by decide +kernel) (by decide +kernel)
theorem ml_L_116 : aQ (.methodLink RL 116 yL_addServer) := aQ.at 391 (by decide +kernel) (by decide +kernel)
theorem kl_L_22 : aQ (.classLink RL 22 "java/lang/IllegalStateException") := aQ.at 394 (by decide +kernel) (by decide +kernel)
theorem ml_L_18 : aQ (.methodLink RL 18 yX6_addServer) := aQ.at 395 (by decide +kernel) (by decide +kernel)
theorem ml_X6_92 : aQ (.methodLink RX6 92 yX6_checkName) := aQ.at 399 (by decide +kernel) (by decide +kernel)
theorem tx_X6_227 : Cond.stringRef RX6 227 "name is out of range" ∈ lw_tbl := List.mem_of_getElem? (i := 402) (by decide +kernel)
theorem ml_X6_95 : aQ (.methodLink RX6 95 yX6_checkWeight) := aQ.at 403 (by decide +kernel) (by decide +kernel)
theorem tx_X6_229 : Cond.stringRef RX6 229 "weight is out of range" ∈ lw_tbl := List.mem_of_getElem? (i := 406) (by decide +kernel)
theorem ml_X6_98 : aQ (.methodLink RX6 98 yX0_find) := aQ.at 407 (by decide +kernel) (by decide +kernel)
theorem kl_X6_101 : aQ (.classLink RX6 101 "java/lang/IllegalStateException") := aQ.at 411 (by decide +kernel) (by decide +kernel)
theorem ca_IllegalStateException : aQ (.castable "java/lang/IllegalStateException" "java/lang/IllegalStateException") := aQ.at 413 (by decide +kernel) (by decide +kernel)
theorem tx_X6_103 : Cond.stringRef RX6 103 "a server has this name already" ∈ lw_tbl := List.mem_of_getElem? (i := 420) (by decide +kernel)
theorem ml_X6_106 : aQ (.methodLink RX6 106 yX0_lowestFree) := aQ.at 427 (by decide +kernel) (by decide +kernel)
theorem ml_X0_42 : aQ (.methodLink RX0 42 yX0_find) := aQ.at 431 (by decide +kernel) (by decide +kernel)
theorem tx_X6_109 : Cond.stringRef RX6 109 "there are 10 servers" ∈ lw_tbl := List.mem_of_getElem? (i := 432) (by decide +kernel)
theorem ml_X6_111 : aQ (.methodLink RX6 111 yX1_remember) := aQ.at 433 (by decide +kernel) (by decide +kernel)
theorem ml_X1_22 : aQ (.methodLink RX1 22 yX4_take) := aQ.at 437 (by decide +kernel) (by decide +kernel)
theorem ml_X4_23 : aQ (.methodLink RX4 23 yX0_copyFrom) := aQ.at 441 (by decide +kernel) (by decide +kernel)
theorem ml_X4_27 : aQ (.methodLink RX4 27 yX2_copyFrom) := aQ.at 445 (by decide +kernel) (by decide +kernel)
theorem ml_X1_26 : aQ (.methodLink RX1 26 yJ9_min_7cf53) := aQ.at 449 (by decide +kernel) (by decide +kernel)
theorem mm_X1_26 : aQ (.methodLink RX1 26 Lib.Math.min.name) := aQ.at 449 (by decide +kernel) (by decide +kernel)
theorem ml_X6_115 : aQ (.methodLink RX6 115 yX0_put) := aQ.at 450 (by decide +kernel) (by decide +kernel)
theorem ml_X6_119 : aQ (.methodLink RX6 119 yX3_rebuild) := aQ.at 454 (by decide +kernel) (by decide +kernel)
theorem ml_X3_61 : aQ (.methodLink RX3 61 yX3_draw) := aQ.at 458 (by decide +kernel) (by decide +kernel)
theorem ml_X3_78 : aQ (.methodLink RX3 78 yX0_greatestWeightWithout) := aQ.at 462 (by decide +kernel) (by decide +kernel)
theorem ml_X0_46 : aQ (.methodLink RX0 46 yJ9_max_7cf53) := aQ.at 466 (by decide +kernel) (by decide +kernel)
theorem mm_X0_46 : aQ (.methodLink RX0 46 Lib.Math.max.name) := aQ.at 466 (by decide +kernel) (by decide +kernel)
theorem ml_X3_73 : aQ (.methodLink RX3 73 yX0_isUp) := aQ.at 469 (by decide +kernel) (by decide +kernel)
theorem ml_X3_82 : aQ (.methodLink RX3 82 yX0_weight) := aQ.at 470 (by decide +kernel) (by decide +kernel)
theorem ml_X3_85 : aQ (.methodLink RX3 85 yX3_hasTurn) := aQ.at 471 (by decide +kernel) (by decide +kernel)
theorem ml_X3_89 : aQ (.methodLink RX3 89 yX0_name) := aQ.at 474 (by decide +kernel) (by decide +kernel)
theorem ml_X3_92 : aQ (.methodLink RX3 92 yX3_claim) := aQ.at 478 (by decide +kernel) (by decide +kernel)
theorem ml_X3_96 : aQ (.methodLink RX3 96 yX3_preferredSlot) := aQ.at 482 (by decide +kernel) (by decide +kernel)
theorem mn_X3_57 : aQ (.methodLinkNest RX3 57 yX6_remainder "PreferenceTable") := aQ.at 486 (by decide +kernel) (by decide +kernel)
theorem ml_X3_65 : aQ (.methodLink RX3 65 yX3_countChanged) := aQ.at 489 (by decide +kernel) (by decide +kernel)
theorem ml_X3_69 : aQ (.methodLink RX3 69 yX3_countForced) := aQ.at 493 (by decide +kernel) (by decide +kernel)
theorem ml_L_120 : aQ (.methodLink RL 120 yL_removeServer) := aQ.at 497 (by decide +kernel) (by decide +kernel)
theorem ml_L_24 : aQ (.methodLink RL 24 yX6_removeServer) := aQ.at 500 (by decide +kernel) (by decide +kernel)
theorem ml_X6_123 : aQ (.methodLink RX6 123 yX6_checkServer) := aQ.at 504 (by decide +kernel) (by decide +kernel)
theorem ml_X6_234 : aQ (.methodLink RX6 234 yX0_has) := aQ.at 508 (by decide +kernel) (by decide +kernel)
theorem tx_X6_237 : Cond.stringRef RX6 237 "there is no such server" ∈ lw_tbl := List.mem_of_getElem? (i := 509) (by decide +kernel)
theorem ml_X6_126 : aQ (.methodLink RX6 126 yX0_load) := aQ.at 510 (by decide +kernel) (by decide +kernel)
theorem ml_X6_130 : aQ (.methodLink RX6 130 yX0_drop) := aQ.at 514 (by decide +kernel) (by decide +kernel)
theorem ml_X6_133 : aQ (.methodLink RX6 133 yX2_dropServer) := aQ.at 518 (by decide +kernel) (by decide +kernel)
theorem ml_X2_26 : aQ (.methodLink RX2 26 yX2_append) := aQ.at 522 (by decide +kernel) (by decide +kernel)
theorem ml_L_123 : aQ (.methodLink RL 123 yL_setWeight) := aQ.at 526 (by decide +kernel) (by decide +kernel)
theorem ml_L_28 : aQ (.methodLink RL 28 yX6_setWeight) := aQ.at 529 (by decide +kernel) (by decide +kernel)
theorem ml_X6_139 : aQ (.methodLink RX6 139 yX0_changeWeight) := aQ.at 533 (by decide +kernel) (by decide +kernel)
theorem ml_L_126 : aQ (.methodLink RL 126 yL_setUp) := aQ.at 537 (by decide +kernel) (by decide +kernel)
theorem ml_L_31 : aQ (.methodLink RL 31 yX6_setUp) := aQ.at 540 (by decide +kernel) (by decide +kernel)
theorem ml_X6_146 : aQ (.methodLink RX6 146 yX0_changeUp) := aQ.at 544 (by decide +kernel) (by decide +kernel)
theorem ml_L_134 : aQ (.methodLink RL 134 yL_serverNamed) := aQ.at 548 (by decide +kernel) (by decide +kernel)
theorem ml_L_35 : aQ (.methodLink RL 35 yX6_serverNamed) := aQ.at 551 (by decide +kernel) (by decide +kernel)
theorem ml_L_137 : aQ (.methodLink RL 137 yL_preference) := aQ.at 555 (by decide +kernel) (by decide +kernel)
theorem ml_L_38 : aQ (.methodLink RL 38 yX6_preference) := aQ.at 558 (by decide +kernel) (by decide +kernel)
theorem tx_X6_151 : Cond.stringRef RX6 151 "index is out of range" ∈ lw_tbl := List.mem_of_getElem? (i := 562) (by decide +kernel)
theorem ml_X6_153 : aQ (.methodLink RX6 153 yX0_name) := aQ.at 563 (by decide +kernel) (by decide +kernel)
theorem ml_X6_156 : aQ (.methodLink RX6 156 yX3_preferredSlot) := aQ.at 564 (by decide +kernel) (by decide +kernel)
theorem ml_L_140 : aQ (.methodLink RL 140 yL_slotsOf) := aQ.at 565 (by decide +kernel) (by decide +kernel)
theorem ml_L_41 : aQ (.methodLink RL 41 yX6_slotsOf) := aQ.at 568 (by decide +kernel) (by decide +kernel)
theorem ml_L_143 : aQ (.methodLink RL 143 yL_idealShare) := aQ.at 572 (by decide +kernel) (by decide +kernel)
theorem ml_L_44 : aQ (.methodLink RL 44 yX6_idealShare) := aQ.at 575 (by decide +kernel) (by decide +kernel)
theorem ml_L_147 : aQ (.methodLink RL 147 yL_removalDisruption) := aQ.at 579 (by decide +kernel) (by decide +kernel)
theorem ml_L_48 : aQ (.methodLink RL 48 yX6_removalDisruption) := aQ.at 582 (by decide +kernel) (by decide +kernel)
theorem ml_X6_160 : aQ (.methodLink RX6 160 yX3_changedWithout) := aQ.at 586 (by decide +kernel) (by decide +kernel)
theorem ml_L_150 : aQ (.methodLink RL 150 yL_serverOf) := aQ.at 590 (by decide +kernel) (by decide +kernel)
theorem ml_L_51 : aQ (.methodLink RL 51 yX6_serverOf) := aQ.at 593 (by decide +kernel) (by decide +kernel)
theorem ml_X6_164 : aQ (.methodLink RX6 164 yX6_checkKey) := aQ.at 597 (by decide +kernel) (by decide +kernel)
theorem cn_X6_231 : aQ (.constant RX6 231 99999) := aQ.at 600 (by decide +kernel) (by decide +kernel)
theorem tx_X6_232 : Cond.stringRef RX6 232 "key is out of range" ∈ lw_tbl := List.mem_of_getElem? (i := 601) (by decide +kernel)
theorem ml_X6_167 : aQ (.methodLink RX6 167 yX6_lookUp) := aQ.at 602 (by decide +kernel) (by decide +kernel)
theorem ml_X6_196 : aQ (.methodLink RX6 196 yX2_server) := aQ.at 606 (by decide +kernel) (by decide +kernel)
theorem ml_X6_247 : aQ (.methodLink RX6 247 yX3_slotOfKey) := aQ.at 610 (by decide +kernel) (by decide +kernel)
theorem cn_X3_51 : aQ (.constantLong RX3 51 40503) := aQ.at 614 (by decide +kernel) (by decide +kernel)
theorem cn_X3_53 : aQ (.constantLong RX3 53 12345) := aQ.at 615 (by decide +kernel) (by decide +kernel)
theorem cn_X3_55 : aQ (.constantLong RX3 55 65536) := aQ.at 616 (by decide +kernel) (by decide +kernel)
theorem ml_L_153 : aQ (.methodLink RL 153 yL_request) := aQ.at 617 (by decide +kernel) (by decide +kernel)
theorem ml_L_54 : aQ (.methodLink RL 54 yX6_request) := aQ.at 620 (by decide +kernel) (by decide +kernel)
theorem cn_X6_170 : aQ (.constant RX6 170 1000000) := aQ.at 624 (by decide +kernel) (by decide +kernel)
theorem tx_X6_171 : Cond.stringRef RX6 171 "n is out of range" ∈ lw_tbl := List.mem_of_getElem? (i := 625) (by decide +kernel)
theorem ml_X6_173 : aQ (.methodLink RX6 173 yX0_addLoad) := aQ.at 626 (by decide +kernel) (by decide +kernel)
theorem ml_X6_176 : aQ (.methodLink RX6 176 yX5_count) := aQ.at 630 (by decide +kernel) (by decide +kernel)
theorem ml_X5_30 : aQ (.methodLink RX5 30 yX5_find) := aQ.at 634 (by decide +kernel) (by decide +kernel)
theorem ml_X5_34 : aQ (.methodLink RX5 34 yX5_append) := aQ.at 638 (by decide +kernel) (by decide +kernel)
theorem ml_X5_37 : aQ (.methodLink RX5 37 yX5_replaceLeast) := aQ.at 642 (by decide +kernel) (by decide +kernel)
theorem ml_X5_44 : aQ (.methodLink RX5 44 yX5_least) := aQ.at 646 (by decide +kernel) (by decide +kernel)
theorem ml_X5_48 : aQ (.methodLink RX5 48 yX5_counted) := aQ.at 650 (by decide +kernel) (by decide +kernel)
theorem ml_X5_26 : aQ (.methodLink RX5 26 yX5_has) := aQ.at 654 (by decide +kernel) (by decide +kernel)
theorem ml_X5_40 : aQ (.methodLink RX5 40 yX5_moveForward) := aQ.at 658 (by decide +kernel) (by decide +kernel)
theorem ml_X5_52 : aQ (.methodLink RX5 52 yX5_isListedBefore) := aQ.at 662 (by decide +kernel) (by decide +kernel)
theorem ml_X5_60 : aQ (.methodLink RX5 60 yX5_key) := aQ.at 666 (by decide +kernel) (by decide +kernel)
theorem ml_X5_56 : aQ (.methodLink RX5 56 yX5_swap) := aQ.at 670 (by decide +kernel) (by decide +kernel)
theorem ml_L_156 : aQ (.methodLink RL 156 yL_loadOf) := aQ.at 674 (by decide +kernel) (by decide +kernel)
theorem ml_L_57 : aQ (.methodLink RL 57 yX6_loadOf) := aQ.at 677 (by decide +kernel) (by decide +kernel)
theorem ml_L_159 : aQ (.methodLink RL 159 yL_rankedServer) := aQ.at 681 (by decide +kernel) (by decide +kernel)
theorem kl_L_63 : aQ (.classLink RL 63 "java/lang/IndexOutOfBoundsException") := aQ.at 684 (by decide +kernel) (by decide +kernel)
theorem ml_L_60 : aQ (.methodLink RL 60 yX6_rankedServer) := aQ.at 685 (by decide +kernel) (by decide +kernel)
theorem ml_X6_179 : aQ (.methodLink RX6 179 yX0_upCount) := aQ.at 689 (by decide +kernel) (by decide +kernel)
theorem kl_X6_182 : aQ (.classLink RX6 182 "java/lang/IndexOutOfBoundsException") := aQ.at 693 (by decide +kernel) (by decide +kernel)
theorem ca_IndexOutOfBoundsException : aQ (.castable "java/lang/IndexOutOfBoundsException" "java/lang/IndexOutOfBoundsException") := aQ.at 695 (by decide +kernel) (by decide +kernel)
theorem tx_X6_184 : Cond.stringRef RX6 184 "there is no such place" ∈ lw_tbl := List.mem_of_getElem? (i := 702) (by decide +kernel)
theorem ml_X6_187 : aQ (.methodLink RX6 187 yX0_ranked) := aQ.at 709 (by decide +kernel) (by decide +kernel)
theorem ml_X0_52 : aQ (.methodLink RX0 52 yX0_countBefore) := aQ.at 713 (by decide +kernel) (by decide +kernel)
theorem ml_X0_55 : aQ (.methodLink RX0 55 yX0_ranksBefore) := aQ.at 717 (by decide +kernel) (by decide +kernel)
theorem ml_X0_59 : aQ (.methodLink RX0 59 yX0_load) := aQ.at 721 (by decide +kernel) (by decide +kernel)
theorem ml_X0_63 : aQ (.methodLink RX0 63 yX0_weight) := aQ.at 722 (by decide +kernel) (by decide +kernel)
theorem ml_L_162 : aQ (.methodLink RL 162 yL_pin) := aQ.at 723 (by decide +kernel) (by decide +kernel)
theorem ml_L_65 : aQ (.methodLink RL 65 yX6_pin) := aQ.at 726 (by decide +kernel) (by decide +kernel)
theorem ml_X6_190 : aQ (.methodLink RX6 190 yX6_checkRoomForPin) := aQ.at 730 (by decide +kernel) (by decide +kernel)
theorem ml_X6_195 : aQ (.methodLink RX6 195 yX2_size) := aQ.at 734 (by decide +kernel) (by decide +kernel)
theorem tx_X6_242 : Cond.stringRef RX6 242 "6 keys are pinned" ∈ lw_tbl := List.mem_of_getElem? (i := 738) (by decide +kernel)
theorem ml_X6_193 : aQ (.methodLink RX6 193 yX2_put) := aQ.at 739 (by decide +kernel) (by decide +kernel)
theorem ml_X2_22 : aQ (.methodLink RX2 22 yX2_drop) := aQ.at 743 (by decide +kernel) (by decide +kernel)
theorem ml_L_165 : aQ (.methodLink RL 165 yL_unpin) := aQ.at 747 (by decide +kernel) (by decide +kernel)
theorem ml_L_68 : aQ (.methodLink RL 68 yX6_unpin) := aQ.at 750 (by decide +kernel) (by decide +kernel)
theorem ml_X6_199 : aQ (.methodLink RX6 199 yX2_drop) := aQ.at 754 (by decide +kernel) (by decide +kernel)
theorem ml_L_168 : aQ (.methodLink RL 168 yL_pinHottest) := aQ.at 755 (by decide +kernel) (by decide +kernel)
theorem ml_L_71 : aQ (.methodLink RL 71 yX6_pinHottest) := aQ.at 758 (by decide +kernel) (by decide +kernel)
theorem tx_X6_201 : Cond.stringRef RX6 201 "the tracker has no entries" ∈ lw_tbl := List.mem_of_getElem? (i := 762) (by decide +kernel)
theorem tx_X6_203 : Cond.stringRef RX6 203 "no server is up" ∈ lw_tbl := List.mem_of_getElem? (i := 763) (by decide +kernel)
theorem ml_X6_205 : aQ (.methodLink RX6 205 yX5_key) := aQ.at 764 (by decide +kernel) (by decide +kernel)
theorem ml_L_176 : aQ (.methodLink RL 176 yL_hotKey) := aQ.at 765 (by decide +kernel) (by decide +kernel)
theorem ml_L_75 : aQ (.methodLink RL 75 yX6_hotKey) := aQ.at 768 (by decide +kernel) (by decide +kernel)
theorem ml_X6_208 : aQ (.methodLink RX6 208 yX6_checkEntry) := aQ.at 772 (by decide +kernel) (by decide +kernel)
theorem ml_X6_239 : aQ (.methodLink RX6 239 yX5_has) := aQ.at 776 (by decide +kernel) (by decide +kernel)
theorem tx_X6_240 : Cond.stringRef RX6 240 "there is no such entry" ∈ lw_tbl := List.mem_of_getElem? (i := 777) (by decide +kernel)
theorem ml_L_179 : aQ (.methodLink RL 179 yL_hotCount) := aQ.at 778 (by decide +kernel) (by decide +kernel)
theorem ml_L_78 : aQ (.methodLink RL 78 yX6_hotCount) := aQ.at 781 (by decide +kernel) (by decide +kernel)
theorem ml_X6_211 : aQ (.methodLink RX6 211 yX5_counted) := aQ.at 785 (by decide +kernel) (by decide +kernel)
theorem ml_L_182 : aQ (.methodLink RL 182 yL_hotError) := aQ.at 786 (by decide +kernel) (by decide +kernel)
theorem ml_L_81 : aQ (.methodLink RL 81 yX6_hotError) := aQ.at 789 (by decide +kernel) (by decide +kernel)
theorem ml_X6_214 : aQ (.methodLink RX6 214 yX5_error) := aQ.at 793 (by decide +kernel) (by decide +kernel)
theorem ml_L_185 : aQ (.methodLink RL 185 yL_undo) := aQ.at 797 (by decide +kernel) (by decide +kernel)
theorem ml_L_84 : aQ (.methodLink RL 84 yX6_undo) := aQ.at 800 (by decide +kernel) (by decide +kernel)
theorem ml_X6_217 : aQ (.methodLink RX6 217 yX1_size) := aQ.at 804 (by decide +kernel) (by decide +kernel)
theorem tx_X6_218 : Cond.stringRef RX6 218 "there is no change to undo" ∈ lw_tbl := List.mem_of_getElem? (i := 808) (by decide +kernel)
theorem ml_X6_220 : aQ (.methodLink RX6 220 yX1_bringBack) := aQ.at 809 (by decide +kernel) (by decide +kernel)
theorem ml_X1_32 : aQ (.methodLink RX1 32 yX4_give) := aQ.at 813 (by decide +kernel) (by decide +kernel)
theorem ml_X1_35 : aQ (.methodLink RX1 35 yJ9_max_7cf53) := aQ.at 817 (by decide +kernel) (by decide +kernel)
theorem mm_X1_35 : aQ (.methodLink RX1 35 Lib.Math.max.name) := aQ.at 817 (by decide +kernel) (by decide +kernel)
theorem kl_L_88 : aQ (.classLink RL 88 RX7) := aQ.at 818 (by decide +kernel) (by decide +kernel)
theorem ins_X7 : aQ (.instantiable RX7 25) := aQ.at 819 (by decide +kernel) (by decide +kernel)
theorem ml_L_90 : aQ (.methodLink RL 90 yX7_init) := aQ.at 820 (by decide +kernel) (by decide +kernel)
theorem ml_X7_1 : aQ (.methodLink RX7 1 objectInit) := aQ.at 823 (by decide +kernel) (by decide +kernel)
theorem ml_X7_69 : aQ (.methodLink RX7 69 yX7_begins) := aQ.at 824 (by decide +kernel) (by decide +kernel)
theorem ml_L_97 : aQ (.methodLink RL 97 yX7_thrown) := aQ.at 904 (by decide +kernel) (by decide +kernel)
theorem ml_L_96 : aQ (.methodLink RL 96 yX7_reset) := aQ.at 908 (by decide +kernel) (by decide +kernel)
theorem cn_X7_116 : aQ (.constantLong RX7 116 5) := aQ.at 912 (by decide +kernel) (by decide +kernel)
theorem cn_X7_118 : aQ (.constantLong RX7 118 61) := aQ.at 913 (by decide +kernel) (by decide +kernel)
theorem ml_X7_93 : aQ (.methodLink RX7 93 yX7_in) := aQ.at 914 (by decide +kernel) (by decide +kernel)
theorem ml_X7_120 : aQ (.methodLink RX7 120 yX7_isPrime) := aQ.at 917 (by decide +kernel) (by decide +kernel)
theorem ml_X7_124 : aQ (.methodLink RX7 124 yX7_isRefused) := aQ.at 920 (by decide +kernel) (by decide +kernel)
theorem ml_L_102 : aQ (.methodLink RL 102 yX7_serverAt) := aQ.at 924 (by decide +kernel) (by decide +kernel)
theorem ml_L_106 : aQ (.methodLink RL 106 yX7_disruption) := aQ.at 928 (by decide +kernel) (by decide +kernel)
theorem ml_L_110 : aQ (.methodLink RL 110 yX7_forcedDisruption) := aQ.at 932 (by decide +kernel) (by decide +kernel)
theorem ml_L_115 : aQ (.methodLink RL 115 yX7_imbalance) := aQ.at 936 (by decide +kernel) (by decide +kernel)
theorem ml_X7_128 : aQ (.methodLink RX7 128 yX7_slotsNow) := aQ.at 940 (by decide +kernel) (by decide +kernel)
theorem ml_X7_132 : aQ (.methodLink RX7 132 yX7_ideal) := aQ.at 944 (by decide +kernel) (by decide +kernel)
theorem ml_L_187 : aQ (.methodLink RL 187 yX7_undo) := aQ.at 948 (by decide +kernel) (by decide +kernel)
theorem ml_X7_136 : aQ (.methodLink RX7 136 yX7_comesAnew) := aQ.at 952 (by decide +kernel) (by decide +kernel)
theorem ml_X7_106 : aQ (.methodLink RX7 106 yX7_remembers) := aQ.at 956 (by decide +kernel) (by decide +kernel)
theorem ml_X7_109 : aQ (.methodLink RX7 109 yX7_builds) := aQ.at 960 (by decide +kernel) (by decide +kernel)
theorem ml_X7_103 : aQ (.methodLink RX7 103 yX7_takes) := aQ.at 964 (by decide +kernel) (by decide +kernel)
theorem ml_X7_99 : aQ (.methodLink RX7 99 yX7_preferred) := aQ.at 968 (by decide +kernel) (by decide +kernel)
theorem ml_X7_112 : aQ (.methodLink RX7 112 yX7_differing) := aQ.at 972 (by decide +kernel) (by decide +kernel)
theorem ml_L_119 : aQ (.methodLink RL 119 yX7_addServer) := aQ.at 976 (by decide +kernel) (by decide +kernel)
theorem ml_X7_143 : aQ (.methodLink RX7 143 yX7_noName) := aQ.at 980 (by decide +kernel) (by decide +kernel)
theorem cn_X7_139 : aQ (.constantLong RX7 139 9999) := aQ.at 983 (by decide +kernel) (by decide +kernel)
theorem ml_X7_146 : aQ (.methodLink RX7 146 yX7_noWeight) := aQ.at 984 (by decide +kernel) (by decide +kernel)
theorem cn_X7_141 : aQ (.constantLong RX7 141 16) := aQ.at 987 (by decide +kernel) (by decide +kernel)
theorem ml_X7_149 : aQ (.methodLink RX7 149 yX7_named) := aQ.at 988 (by decide +kernel) (by decide +kernel)
theorem ml_X7_152 : aQ (.methodLink RX7 152 yX7_count) := aQ.at 992 (by decide +kernel) (by decide +kernel)
theorem ml_X7_155 : aQ (.methodLink RX7 155 yX7_keeps) := aQ.at 996 (by decide +kernel) (by decide +kernel)
theorem ml_L_122 : aQ (.methodLink RL 122 yX7_removeServer) := aQ.at 1000 (by decide +kernel) (by decide +kernel)
theorem ml_X7_158 : aQ (.methodLink RX7 158 yX7_noServer) := aQ.at 1004 (by decide +kernel) (by decide +kernel)
theorem cn_X7_91 : aQ (.constantLong RX7 91 9) := aQ.at 1008 (by decide +kernel) (by decide +kernel)
theorem ml_L_125 : aQ (.methodLink RL 125 yX7_setWeight) := aQ.at 1009 (by decide +kernel) (by decide +kernel)
theorem ml_L_129 : aQ (.methodLink RL 129 yX7_setUp) := aQ.at 1013 (by decide +kernel) (by decide +kernel)
theorem ml_L_133 : aQ (.methodLink RL 133 yX7_serverCount) := aQ.at 1017 (by decide +kernel) (by decide +kernel)
theorem ml_L_136 : aQ (.methodLink RL 136 yX7_serverNamed) := aQ.at 1021 (by decide +kernel) (by decide +kernel)
theorem ml_L_139 : aQ (.methodLink RL 139 yX7_preference) := aQ.at 1025 (by decide +kernel) (by decide +kernel)
theorem ml_L_142 : aQ (.methodLink RL 142 yX7_slotsOf) := aQ.at 1029 (by decide +kernel) (by decide +kernel)
theorem ml_L_146 : aQ (.methodLink RL 146 yX7_idealShare) := aQ.at 1033 (by decide +kernel) (by decide +kernel)
theorem ml_L_149 : aQ (.methodLink RL 149 yX7_removalDisruption) := aQ.at 1037 (by decide +kernel) (by decide +kernel)
theorem ml_L_152 : aQ (.methodLink RL 152 yX7_serverOf) := aQ.at 1041 (by decide +kernel) (by decide +kernel)
theorem ml_X7_170 : aQ (.methodLink RX7 170 yX7_noKey) := aQ.at 1045 (by decide +kernel) (by decide +kernel)
theorem cn_X7_97 : aQ (.constantLong RX7 97 99999) := aQ.at 1048 (by decide +kernel) (by decide +kernel)
theorem ml_X7_173 : aQ (.methodLink RX7 173 yX7_at) := aQ.at 1049 (by decide +kernel) (by decide +kernel)
theorem ml_X7_161 : aQ (.methodLink RX7 161 yX7_pinOf) := aQ.at 1053 (by decide +kernel) (by decide +kernel)
theorem cn_X7_164 : aQ (.constantLong RX7 164 40503) := aQ.at 1057 (by decide +kernel) (by decide +kernel)
theorem cn_X7_166 : aQ (.constantLong RX7 166 12345) := aQ.at 1058 (by decide +kernel) (by decide +kernel)
theorem cn_X7_168 : aQ (.constantLong RX7 168 65536) := aQ.at 1059 (by decide +kernel) (by decide +kernel)
theorem ml_L_155 : aQ (.methodLink RL 155 yX7_request) := aQ.at 1060 (by decide +kernel) (by decide +kernel)
theorem cn_X7_176 : aQ (.constantLong RX7 176 1000000) := aQ.at 1064 (by decide +kernel) (by decide +kernel)
theorem ml_X7_178 : aQ (.methodLink RX7 178 yX7_tracks) := aQ.at 1065 (by decide +kernel) (by decide +kernel)
theorem ml_L_158 : aQ (.methodLink RL 158 yX7_loadOf) := aQ.at 1069 (by decide +kernel) (by decide +kernel)
theorem ml_L_161 : aQ (.methodLink RL 161 yX7_rankedServer) := aQ.at 1073 (by decide +kernel) (by decide +kernel)
theorem ml_X7_182 : aQ (.methodLink RX7 182 yX7_ups) := aQ.at 1077 (by decide +kernel) (by decide +kernel)
theorem ml_X7_185 : aQ (.methodLink RX7 185 yX7_ranked) := aQ.at 1081 (by decide +kernel) (by decide +kernel)
theorem ml_L_164 : aQ (.methodLink RL 164 yX7_pin) := aQ.at 1085 (by decide +kernel) (by decide +kernel)
theorem ml_X7_188 : aQ (.methodLink RX7 188 yX7_noRoom) := aQ.at 1089 (by decide +kernel) (by decide +kernel)
theorem ml_X7_191 : aQ (.methodLink RX7 191 yX7_pinsTo) := aQ.at 1093 (by decide +kernel) (by decide +kernel)
theorem ml_L_167 : aQ (.methodLink RL 167 yX7_unpin) := aQ.at 1097 (by decide +kernel) (by decide +kernel)
theorem ml_L_171 : aQ (.methodLink RL 171 yX7_pinHottest) := aQ.at 1101 (by decide +kernel) (by decide +kernel)
theorem ml_X7_194 : aQ (.methodLink RX7 194 yX7_listed) := aQ.at 1105 (by decide +kernel) (by decide +kernel)
theorem ml_L_175 : aQ (.methodLink RL 175 yX7_trackedKeys) := aQ.at 1109 (by decide +kernel) (by decide +kernel)
theorem ml_L_178 : aQ (.methodLink RL 178 yX7_hotKey) := aQ.at 1113 (by decide +kernel) (by decide +kernel)
theorem ml_X7_197 : aQ (.methodLink RX7 197 yX7_noEntry) := aQ.at 1117 (by decide +kernel) (by decide +kernel)
theorem ml_L_181 : aQ (.methodLink RL 181 yX7_hotCount) := aQ.at 1121 (by decide +kernel) (by decide +kernel)
theorem ml_L_184 : aQ (.methodLink RL 184 yX7_hotError) := aQ.at 1125 (by decide +kernel) (by decide +kernel)
theorem ar_double : aQ (.arrayClass .double) := aQ.at 1129 (by decide +kernel) (by decide +kernel)
theorem oi_iv : aQ (.instanceMethod objectInit) := aQ.at 66 (by decide +kernel) (by decide +kernel)
theorem oi_cd : aQ (.code objectInit ⟨#[0xb1]⟩ 1 none) := aQ.at 67 (by decide +kernel) (by decide +kernel)
theorem mt_max_st : aQ (.static Lib.Math.max.name) := aQ.at 467 (by decide +kernel) (by decide +kernel)
theorem mt_max_cd : aQ (.code Lib.Math.max.name Lib.Math.max.code 2 (some .int)) := aQ.at 468 (by decide +kernel) (by decide +kernel)
theorem mt_min_st : aQ (.static Lib.Math.min.name) := aQ.at 117 (by decide +kernel) (by decide +kernel)
theorem mt_min_cd : aQ (.code Lib.Math.min.name Lib.Math.min.code 2 (some .int)) := aQ.at 118 (by decide +kernel) (by decide +kernel)
theorem aQs {ws : List Cond} (ps : List Nat) (h : ws = ps.filterMap (fun i => lw_tbl[i]?)) (hg : ws.all aWk = true) : ∀ w ∈ ws, aQ w := by
  intro w hw
  refine ⟨?_, List.all_eq_true.mp hg w hw⟩
  rw [h] at hw
  obtain ⟨i, -, hi⟩ := List.mem_filterMap.mp hw
  exact List.mem_of_getElem? hi
theorem u_X0 : ∀ w ∈ u_ws RX0 TX0 4, aQ w := aQs [78, 80, 82, 84] (by decide +kernel) (by decide +kernel)
theorem u_X1 : ∀ w ∈ u_ws RX1 TX1 2, aQ w := aQs [186, 188] (by decide +kernel) (by decide +kernel)
theorem u_X2 : ∀ w ∈ u_ws RX2 TX2 3, aQ w := aQs [99, 101, 103] (by decide +kernel) (by decide +kernel)
theorem u_X3 : ∀ w ∈ u_ws RX3 TX3 6, aQ w := aQs [128, 130, 132, 134, 136, 138] (by decide +kernel) (by decide +kernel)
theorem u_X4 : ∀ w ∈ u_ws RX4 TX4 2, aQ w := aQs [179, 181] (by decide +kernel) (by decide +kernel)
theorem u_X5 : ∀ w ∈ u_ws RX5 TX5 4, aQ w := aQs [151, 153, 155, 157] (by decide +kernel) (by decide +kernel)
theorem u_X6 : ∀ w ∈ u_ws RX6 TX6 5, aQ w := aQs [196, 198, 200, 202, 204] (by decide +kernel) (by decide +kernel)
theorem u_X7 : ∀ w ∈ u_ws RX7 TX7 25, aQ w := aQs [853, 855, 857, 859, 861, 863, 865, 867, 869, 871, 873, 875, 877, 879, 881, 883, 885, 887, 889, 891, 893, 895, 897, 899, 901] (by decide +kernel) (by decide +kernel)
theorem qf_X0_9 : aQ (.fieldLink RX0 9 (TX0 0).1 (TX0 0).2.1 (TX0 0).2.2.1) := aQ.at 74 (by decide +kernel) (by decide +kernel)
theorem fl_X0_9 : aFl RX0 9 0 0 := ⟨RX0, TX0, 4, rfl, u_X0, by decide, qf_X0_9⟩
theorem fp_X0_9 : aFp RX0 9 0 0 true (.array .int) := ⟨RX0, TX0, 4, tyX0, rfl, u_X0, by decide, qf_X0_9, tyX0_ok, nmX0, rfl, rfl, rfl⟩
theorem qf_X0_15 : aQ (.fieldLink RX0 15 (TX0 1).1 (TX0 1).2.1 (TX0 1).2.2.1) := aQ.at 75 (by decide +kernel) (by decide +kernel)
theorem fl_X0_15 : aFl RX0 15 0 1 := ⟨RX0, TX0, 4, rfl, u_X0, by decide, qf_X0_15⟩
theorem fp_X0_15 : aFp RX0 15 0 1 true (.array .int) := ⟨RX0, TX0, 4, tyX0, rfl, u_X0, by decide, qf_X0_15, tyX0_ok, nmX0, rfl, rfl, rfl⟩
theorem qf_X0_18 : aQ (.fieldLink RX0 18 (TX0 2).1 (TX0 2).2.1 (TX0 2).2.2.1) := aQ.at 76 (by decide +kernel) (by decide +kernel)
theorem fl_X0_18 : aFl RX0 18 0 2 := ⟨RX0, TX0, 4, rfl, u_X0, by decide, qf_X0_18⟩
theorem fp_X0_18 : aFp RX0 18 0 2 true (.array .boolean) := ⟨RX0, TX0, 4, tyX0, rfl, u_X0, by decide, qf_X0_18, tyX0_ok, nmX0, rfl, rfl, rfl⟩
theorem qf_X0_22 : aQ (.fieldLink RX0 22 (TX0 3).1 (TX0 3).2.1 (TX0 3).2.2.1) := aQ.at 77 (by decide +kernel) (by decide +kernel)
theorem fl_X0_22 : aFl RX0 22 0 3 := ⟨RX0, TX0, 4, rfl, u_X0, by decide, qf_X0_22⟩
theorem fp_X0_22 : aFp RX0 22 0 3 true (.array .long) := ⟨RX0, TX0, 4, tyX0, rfl, u_X0, by decide, qf_X0_22, tyX0_ok, nmX0, rfl, rfl, rfl⟩
theorem qf_X2_9 : aQ (.fieldLink RX2 9 (TX2 0).1 (TX2 0).2.1 (TX2 0).2.2.1) := aQ.at 96 (by decide +kernel) (by decide +kernel)
theorem fl_X2_9 : aFl RX2 9 2 0 := ⟨RX2, TX2, 3, rfl, u_X2, by decide, qf_X2_9⟩
theorem fp_X2_9 : aFp RX2 9 2 0 true (.array .int) := ⟨RX2, TX2, 3, tyX2, rfl, u_X2, by decide, qf_X2_9, tyX2_ok, nmX2, rfl, rfl, rfl⟩
theorem qf_X2_15 : aQ (.fieldLink RX2 15 (TX2 1).1 (TX2 1).2.1 (TX2 1).2.2.1) := aQ.at 97 (by decide +kernel) (by decide +kernel)
theorem fl_X2_15 : aFl RX2 15 2 1 := ⟨RX2, TX2, 3, rfl, u_X2, by decide, qf_X2_15⟩
theorem fp_X2_15 : aFp RX2 15 2 1 true (.array .int) := ⟨RX2, TX2, 3, tyX2, rfl, u_X2, by decide, qf_X2_15, tyX2_ok, nmX2, rfl, rfl, rfl⟩
theorem qf_X2_18 : aQ (.fieldLink RX2 18 (TX2 2).1 (TX2 2).2.1 (TX2 2).2.2.1) := aQ.at 98 (by decide +kernel) (by decide +kernel)
theorem fl_X2_18 : aFl RX2 18 2 2 := ⟨RX2, TX2, 3, rfl, u_X2, by decide, qf_X2_18⟩
theorem fp_X2_18 : aFp RX2 18 2 2 false (.int) := ⟨RX2, TX2, 3, tyX2, rfl, u_X2, by decide, qf_X2_18, tyX2_ok, nmX2, rfl, rfl, rfl⟩
theorem qf_X3_31 : aQ (.fieldLink RX3 31 (TX3 0).1 (TX3 0).2.1 (TX3 0).2.2.1) := aQ.at 122 (by decide +kernel) (by decide +kernel)
theorem fl_X3_31 : aFl RX3 31 3 0 := ⟨RX3, TX3, 6, rfl, u_X3, by decide, qf_X3_31⟩
theorem fp_X3_31 : aFp RX3 31 3 0 false (.int) := ⟨RX3, TX3, 6, tyX3, rfl, u_X3, by decide, qf_X3_31, tyX3_ok, nmX3, rfl, rfl, rfl⟩
theorem qf_X3_9 : aQ (.fieldLink RX3 9 (TX3 1).1 (TX3 1).2.1 (TX3 1).2.2.1) := aQ.at 123 (by decide +kernel) (by decide +kernel)
theorem fl_X3_9 : aFl RX3 9 3 1 := ⟨RX3, TX3, 6, rfl, u_X3, by decide, qf_X3_9⟩
theorem fp_X3_9 : aFp RX3 9 3 1 false (.array .int) := ⟨RX3, TX3, 6, tyX3, rfl, u_X3, by decide, qf_X3_9, tyX3_ok, nmX3, rfl, rfl, rfl⟩
theorem qf_X3_15 : aQ (.fieldLink RX3 15 (TX3 2).1 (TX3 2).2.1 (TX3 2).2.2.1) := aQ.at 124 (by decide +kernel) (by decide +kernel)
theorem fl_X3_15 : aFl RX3 15 3 2 := ⟨RX3, TX3, 6, rfl, u_X3, by decide, qf_X3_15⟩
theorem fp_X3_15 : aFp RX3 15 3 2 false (.array .int) := ⟨RX3, TX3, 6, tyX3, rfl, u_X3, by decide, qf_X3_15, tyX3_ok, nmX3, rfl, rfl, rfl⟩
theorem qf_X3_18 : aQ (.fieldLink RX3 18 (TX3 3).1 (TX3 3).2.1 (TX3 3).2.2.1) := aQ.at 125 (by decide +kernel) (by decide +kernel)
theorem fl_X3_18 : aFl RX3 18 3 3 := ⟨RX3, TX3, 6, rfl, u_X3, by decide, qf_X3_18⟩
theorem fp_X3_18 : aFp RX3 18 3 3 true (.array .int) := ⟨RX3, TX3, 6, tyX3, rfl, u_X3, by decide, qf_X3_18, tyX3_ok, nmX3, rfl, rfl, rfl⟩
theorem qf_X3_41 : aQ (.fieldLink RX3 41 (TX3 4).1 (TX3 4).2.1 (TX3 4).2.2.1) := aQ.at 126 (by decide +kernel) (by decide +kernel)
theorem fl_X3_41 : aFl RX3 41 3 4 := ⟨RX3, TX3, 6, rfl, u_X3, by decide, qf_X3_41⟩
theorem fp_X3_41 : aFp RX3 41 3 4 false (.int) := ⟨RX3, TX3, 6, tyX3, rfl, u_X3, by decide, qf_X3_41, tyX3_ok, nmX3, rfl, rfl, rfl⟩
theorem qf_X3_44 : aQ (.fieldLink RX3 44 (TX3 5).1 (TX3 5).2.1 (TX3 5).2.2.1) := aQ.at 127 (by decide +kernel) (by decide +kernel)
theorem fl_X3_44 : aFl RX3 44 3 5 := ⟨RX3, TX3, 6, rfl, u_X3, by decide, qf_X3_44⟩
theorem fp_X3_44 : aFp RX3 44 3 5 false (.int) := ⟨RX3, TX3, 6, tyX3, rfl, u_X3, by decide, qf_X3_44, tyX3_ok, nmX3, rfl, rfl, rfl⟩
theorem qf_X5_9 : aQ (.fieldLink RX5 9 (TX5 0).1 (TX5 0).2.1 (TX5 0).2.2.1) := aQ.at 147 (by decide +kernel) (by decide +kernel)
theorem fl_X5_9 : aFl RX5 9 5 0 := ⟨RX5, TX5, 4, rfl, u_X5, by decide, qf_X5_9⟩
theorem fp_X5_9 : aFp RX5 9 5 0 true (.array .int) := ⟨RX5, TX5, 4, tyX5, rfl, u_X5, by decide, qf_X5_9, tyX5_ok, nmX5, rfl, rfl, rfl⟩
theorem qf_X5_15 : aQ (.fieldLink RX5 15 (TX5 1).1 (TX5 1).2.1 (TX5 1).2.2.1) := aQ.at 148 (by decide +kernel) (by decide +kernel)
theorem fl_X5_15 : aFl RX5 15 5 1 := ⟨RX5, TX5, 4, rfl, u_X5, by decide, qf_X5_15⟩
theorem fp_X5_15 : aFp RX5 15 5 1 true (.array .long) := ⟨RX5, TX5, 4, tyX5, rfl, u_X5, by decide, qf_X5_15, tyX5_ok, nmX5, rfl, rfl, rfl⟩
theorem qf_X5_19 : aQ (.fieldLink RX5 19 (TX5 2).1 (TX5 2).2.1 (TX5 2).2.2.1) := aQ.at 149 (by decide +kernel) (by decide +kernel)
theorem fl_X5_19 : aFl RX5 19 5 2 := ⟨RX5, TX5, 4, rfl, u_X5, by decide, qf_X5_19⟩
theorem fp_X5_19 : aFp RX5 19 5 2 true (.array .long) := ⟨RX5, TX5, 4, tyX5, rfl, u_X5, by decide, qf_X5_19, tyX5_ok, nmX5, rfl, rfl, rfl⟩
theorem qf_X5_22 : aQ (.fieldLink RX5 22 (TX5 3).1 (TX5 3).2.1 (TX5 3).2.2.1) := aQ.at 150 (by decide +kernel) (by decide +kernel)
theorem fl_X5_22 : aFl RX5 22 5 3 := ⟨RX5, TX5, 4, rfl, u_X5, by decide, qf_X5_22⟩
theorem fp_X5_22 : aFp RX5 22 5 3 false (.int) := ⟨RX5, TX5, 4, tyX5, rfl, u_X5, by decide, qf_X5_22, tyX5_ok, nmX5, rfl, rfl, rfl⟩
theorem qf_X4_10 : aQ (.fieldLink RX4 10 (TX4 0).1 (TX4 0).2.1 (TX4 0).2.2.1) := aQ.at 177 (by decide +kernel) (by decide +kernel)
theorem fl_X4_10 : aFl RX4 10 4 0 := ⟨RX4, TX4, 2, rfl, u_X4, by decide, qf_X4_10⟩
theorem fp_X4_10 : aFp RX4 10 4 0 true (.object "PreferenceTable$Fleet") := ⟨RX4, TX4, 2, tyX4, rfl, u_X4, by decide, qf_X4_10, tyX4_ok, nmX4, rfl, rfl, rfl⟩
theorem qf_X4_19 : aQ (.fieldLink RX4 19 (TX4 1).1 (TX4 1).2.1 (TX4 1).2.2.1) := aQ.at 178 (by decide +kernel) (by decide +kernel)
theorem fl_X4_19 : aFl RX4 19 4 1 := ⟨RX4, TX4, 2, rfl, u_X4, by decide, qf_X4_19⟩
theorem fp_X4_19 : aFp RX4 19 4 1 true (.object "PreferenceTable$Pins") := ⟨RX4, TX4, 2, tyX4, rfl, u_X4, by decide, qf_X4_19, tyX4_ok, nmX4, rfl, rfl, rfl⟩
theorem qf_X1_11 : aQ (.fieldLink RX1 11 (TX1 0).1 (TX1 0).2.1 (TX1 0).2.2.1) := aQ.at 184 (by decide +kernel) (by decide +kernel)
theorem fl_X1_11 : aFl RX1 11 1 0 := ⟨RX1, TX1, 2, rfl, u_X1, by decide, qf_X1_11⟩
theorem fp_X1_11 : aFp RX1 11 1 0 true (.array (.object "PreferenceTable$Snapshot")) := ⟨RX1, TX1, 2, tyX1, rfl, u_X1, by decide, qf_X1_11, tyX1_ok, nmX1, rfl, rfl, rfl⟩
theorem qf_X1_17 : aQ (.fieldLink RX1 17 (TX1 1).1 (TX1 1).2.1 (TX1 1).2.2.1) := aQ.at 185 (by decide +kernel) (by decide +kernel)
theorem fl_X1_17 : aFl RX1 17 1 1 := ⟨RX1, TX1, 2, rfl, u_X1, by decide, qf_X1_17⟩
theorem fp_X1_17 : aFp RX1 17 1 1 false (.int) := ⟨RX1, TX1, 2, tyX1, rfl, u_X1, by decide, qf_X1_17, tyX1_ok, nmX1, rfl, rfl, rfl⟩
theorem qf_X6_10 : aQ (.fieldLink RX6 10 (TX6 0).1 (TX6 0).2.1 (TX6 0).2.2.1) := aQ.at 191 (by decide +kernel) (by decide +kernel)
theorem fl_X6_10 : aFl RX6 10 6 0 := ⟨RX6, TX6, 5, rfl, u_X6, by decide, qf_X6_10⟩
theorem fp_X6_10 : aFp RX6 10 6 0 true (.object "PreferenceTable$Fleet") := ⟨RX6, TX6, 5, tyX6, rfl, u_X6, by decide, qf_X6_10, tyX6_ok, nmX6, rfl, rfl, rfl⟩
theorem qf_X6_19 : aQ (.fieldLink RX6 19 (TX6 1).1 (TX6 1).2.1 (TX6 1).2.2.1) := aQ.at 192 (by decide +kernel) (by decide +kernel)
theorem fl_X6_19 : aFl RX6 19 6 1 := ⟨RX6, TX6, 5, rfl, u_X6, by decide, qf_X6_19⟩
theorem fp_X6_19 : aFp RX6 19 6 1 true (.object "PreferenceTable$Pins") := ⟨RX6, TX6, 5, tyX6, rfl, u_X6, by decide, qf_X6_19, tyX6_ok, nmX6, rfl, rfl, rfl⟩
theorem qf_X6_28 : aQ (.fieldLink RX6 28 (TX6 2).1 (TX6 2).2.1 (TX6 2).2.2.1) := aQ.at 193 (by decide +kernel) (by decide +kernel)
theorem fl_X6_28 : aFl RX6 28 6 2 := ⟨RX6, TX6, 5, rfl, u_X6, by decide, qf_X6_28⟩
theorem fp_X6_28 : aFp RX6 28 6 2 true (.object "PreferenceTable$SlotTable") := ⟨RX6, TX6, 5, tyX6, rfl, u_X6, by decide, qf_X6_28, tyX6_ok, nmX6, rfl, rfl, rfl⟩
theorem qf_X6_35 : aQ (.fieldLink RX6 35 (TX6 3).1 (TX6 3).2.1 (TX6 3).2.2.1) := aQ.at 194 (by decide +kernel) (by decide +kernel)
theorem fl_X6_35 : aFl RX6 35 6 3 := ⟨RX6, TX6, 5, rfl, u_X6, by decide, qf_X6_35⟩
theorem fp_X6_35 : aFp RX6 35 6 3 true (.object "PreferenceTable$Tracker") := ⟨RX6, TX6, 5, tyX6, rfl, u_X6, by decide, qf_X6_35, tyX6_ok, nmX6, rfl, rfl, rfl⟩
theorem qf_X6_42 : aQ (.fieldLink RX6 42 (TX6 4).1 (TX6 4).2.1 (TX6 4).2.2.1) := aQ.at 195 (by decide +kernel) (by decide +kernel)
theorem fl_X6_42 : aFl RX6 42 6 4 := ⟨RX6, TX6, 5, rfl, u_X6, by decide, qf_X6_42⟩
theorem fp_X6_42 : aFp RX6 42 6 4 true (.object "PreferenceTable$History") := ⟨RX6, TX6, 5, tyX6, rfl, u_X6, by decide, qf_X6_42, tyX6_ok, nmX6, rfl, rfl, rfl⟩
theorem qf_X6_223 : aQ (.fieldLink RX6 223 "PreferenceTable" "SLOT_COUNTS" "[I") := aQ.at 286 (by decide +kernel) (by decide +kernel)
theorem qf_X7_73 : aQ (.fieldLink RX7 73 (TX7 0).1 (TX7 0).2.1 (TX7 0).2.2.1) := aQ.at 828 (by decide +kernel) (by decide +kernel)
theorem fl_X7_73 : aFl RX7 73 7 0 := ⟨RX7, TX7, 25, rfl, u_X7, by decide, qf_X7_73⟩
theorem fp_X7_73 : aFp RX7 73 7 0 false (.int) := ⟨RX7, TX7, 25, tyX7, rfl, u_X7, by decide, qf_X7_73, tyX7_ok, nmX7, rfl, rfl, rfl⟩
theorem qf_X7_7 : aQ (.fieldLink RX7 7 (TX7 1).1 (TX7 1).2.1 (TX7 1).2.2.1) := aQ.at 829 (by decide +kernel) (by decide +kernel)
theorem fl_X7_7 : aFl RX7 7 7 1 := ⟨RX7, TX7, 25, rfl, u_X7, by decide, qf_X7_7⟩
theorem fp_X7_7 : aFp RX7 7 7 1 false (.int) := ⟨RX7, TX7, 25, tyX7, rfl, u_X7, by decide, qf_X7_7, tyX7_ok, nmX7, rfl, rfl, rfl⟩
theorem qf_X7_13 : aQ (.fieldLink RX7 13 (TX7 2).1 (TX7 2).2.1 (TX7 2).2.2.1) := aQ.at 830 (by decide +kernel) (by decide +kernel)
theorem fl_X7_13 : aFl RX7 13 7 2 := ⟨RX7, TX7, 25, rfl, u_X7, by decide, qf_X7_13⟩
theorem fp_X7_13 : aFp RX7 13 7 2 true (.array .int) := ⟨RX7, TX7, 25, tyX7, rfl, u_X7, by decide, qf_X7_13, tyX7_ok, nmX7, rfl, rfl, rfl⟩
theorem qf_X7_17 : aQ (.fieldLink RX7 17 (TX7 3).1 (TX7 3).2.1 (TX7 3).2.2.1) := aQ.at 831 (by decide +kernel) (by decide +kernel)
theorem fl_X7_17 : aFl RX7 17 7 3 := ⟨RX7, TX7, 25, rfl, u_X7, by decide, qf_X7_17⟩
theorem fp_X7_17 : aFp RX7 17 7 3 true (.array .int) := ⟨RX7, TX7, 25, tyX7, rfl, u_X7, by decide, qf_X7_17, tyX7_ok, nmX7, rfl, rfl, rfl⟩
theorem qf_X7_20 : aQ (.fieldLink RX7 20 (TX7 4).1 (TX7 4).2.1 (TX7 4).2.2.1) := aQ.at 832 (by decide +kernel) (by decide +kernel)
theorem fl_X7_20 : aFl RX7 20 7 4 := ⟨RX7, TX7, 25, rfl, u_X7, by decide, qf_X7_20⟩
theorem fp_X7_20 : aFp RX7 20 7 4 true (.array .int) := ⟨RX7, TX7, 25, tyX7, rfl, u_X7, by decide, qf_X7_20, tyX7_ok, nmX7, rfl, rfl, rfl⟩
theorem qf_X7_23 : aQ (.fieldLink RX7 23 (TX7 5).1 (TX7 5).2.1 (TX7 5).2.2.1) := aQ.at 833 (by decide +kernel) (by decide +kernel)
theorem fl_X7_23 : aFl RX7 23 7 5 := ⟨RX7, TX7, 25, rfl, u_X7, by decide, qf_X7_23⟩
theorem fp_X7_23 : aFp RX7 23 7 5 true (.array .long) := ⟨RX7, TX7, 25, tyX7, rfl, u_X7, by decide, qf_X7_23, tyX7_ok, nmX7, rfl, rfl, rfl⟩
theorem qf_X7_27 : aQ (.fieldLink RX7 27 (TX7 6).1 (TX7 6).2.1 (TX7 6).2.2.1) := aQ.at 834 (by decide +kernel) (by decide +kernel)
theorem fl_X7_27 : aFl RX7 27 7 6 := ⟨RX7, TX7, 25, rfl, u_X7, by decide, qf_X7_27⟩
theorem fp_X7_27 : aFp RX7 27 7 6 true (.array .int) := ⟨RX7, TX7, 25, tyX7, rfl, u_X7, by decide, qf_X7_27, tyX7_ok, nmX7, rfl, rfl, rfl⟩
theorem qf_X7_30 : aQ (.fieldLink RX7 30 (TX7 7).1 (TX7 7).2.1 (TX7 7).2.2.1) := aQ.at 835 (by decide +kernel) (by decide +kernel)
theorem fl_X7_30 : aFl RX7 30 7 7 := ⟨RX7, TX7, 25, rfl, u_X7, by decide, qf_X7_30⟩
theorem fp_X7_30 : aFp RX7 30 7 7 true (.array .int) := ⟨RX7, TX7, 25, tyX7, rfl, u_X7, by decide, qf_X7_30, tyX7_ok, nmX7, rfl, rfl, rfl⟩
theorem qf_X7_76 : aQ (.fieldLink RX7 76 (TX7 8).1 (TX7 8).2.1 (TX7 8).2.2.1) := aQ.at 836 (by decide +kernel) (by decide +kernel)
theorem fl_X7_76 : aFl RX7 76 7 8 := ⟨RX7, TX7, 25, rfl, u_X7, by decide, qf_X7_76⟩
theorem fp_X7_76 : aFp RX7 76 7 8 false (.int) := ⟨RX7, TX7, 25, tyX7, rfl, u_X7, by decide, qf_X7_76, tyX7_ok, nmX7, rfl, rfl, rfl⟩
theorem qf_X7_79 : aQ (.fieldLink RX7 79 (TX7 9).1 (TX7 9).2.1 (TX7 9).2.2.1) := aQ.at 837 (by decide +kernel) (by decide +kernel)
theorem fl_X7_79 : aFl RX7 79 7 9 := ⟨RX7, TX7, 25, rfl, u_X7, by decide, qf_X7_79⟩
theorem fp_X7_79 : aFp RX7 79 7 9 false (.int) := ⟨RX7, TX7, 25, tyX7, rfl, u_X7, by decide, qf_X7_79, tyX7_ok, nmX7, rfl, rfl, rfl⟩
theorem qf_X7_82 : aQ (.fieldLink RX7 82 (TX7 10).1 (TX7 10).2.1 (TX7 10).2.2.1) := aQ.at 838 (by decide +kernel) (by decide +kernel)
theorem fl_X7_82 : aFl RX7 82 7 10 := ⟨RX7, TX7, 25, rfl, u_X7, by decide, qf_X7_82⟩
theorem fp_X7_82 : aFp RX7 82 7 10 false (.int) := ⟨RX7, TX7, 25, tyX7, rfl, u_X7, by decide, qf_X7_82, tyX7_ok, nmX7, rfl, rfl, rfl⟩
theorem qf_X7_33 : aQ (.fieldLink RX7 33 (TX7 11).1 (TX7 11).2.1 (TX7 11).2.2.1) := aQ.at 839 (by decide +kernel) (by decide +kernel)
theorem fl_X7_33 : aFl RX7 33 7 11 := ⟨RX7, TX7, 25, rfl, u_X7, by decide, qf_X7_33⟩
theorem fp_X7_33 : aFp RX7 33 7 11 true (.array .int) := ⟨RX7, TX7, 25, tyX7, rfl, u_X7, by decide, qf_X7_33, tyX7_ok, nmX7, rfl, rfl, rfl⟩
theorem qf_X7_36 : aQ (.fieldLink RX7 36 (TX7 12).1 (TX7 12).2.1 (TX7 12).2.2.1) := aQ.at 840 (by decide +kernel) (by decide +kernel)
theorem fl_X7_36 : aFl RX7 36 7 12 := ⟨RX7, TX7, 25, rfl, u_X7, by decide, qf_X7_36⟩
theorem fp_X7_36 : aFp RX7 36 7 12 true (.array .int) := ⟨RX7, TX7, 25, tyX7, rfl, u_X7, by decide, qf_X7_36, tyX7_ok, nmX7, rfl, rfl, rfl⟩
theorem qf_X7_85 : aQ (.fieldLink RX7 85 (TX7 13).1 (TX7 13).2.1 (TX7 13).2.2.1) := aQ.at 841 (by decide +kernel) (by decide +kernel)
theorem fl_X7_85 : aFl RX7 85 7 13 := ⟨RX7, TX7, 25, rfl, u_X7, by decide, qf_X7_85⟩
theorem fp_X7_85 : aFp RX7 85 7 13 false (.int) := ⟨RX7, TX7, 25, tyX7, rfl, u_X7, by decide, qf_X7_85, tyX7_ok, nmX7, rfl, rfl, rfl⟩
theorem qf_X7_39 : aQ (.fieldLink RX7 39 (TX7 14).1 (TX7 14).2.1 (TX7 14).2.2.1) := aQ.at 842 (by decide +kernel) (by decide +kernel)
theorem fl_X7_39 : aFl RX7 39 7 14 := ⟨RX7, TX7, 25, rfl, u_X7, by decide, qf_X7_39⟩
theorem fp_X7_39 : aFp RX7 39 7 14 true (.array .int) := ⟨RX7, TX7, 25, tyX7, rfl, u_X7, by decide, qf_X7_39, tyX7_ok, nmX7, rfl, rfl, rfl⟩
theorem qf_X7_42 : aQ (.fieldLink RX7 42 (TX7 15).1 (TX7 15).2.1 (TX7 15).2.2.1) := aQ.at 843 (by decide +kernel) (by decide +kernel)
theorem fl_X7_42 : aFl RX7 42 7 15 := ⟨RX7, TX7, 25, rfl, u_X7, by decide, qf_X7_42⟩
theorem fp_X7_42 : aFp RX7 42 7 15 true (.array .long) := ⟨RX7, TX7, 25, tyX7, rfl, u_X7, by decide, qf_X7_42, tyX7_ok, nmX7, rfl, rfl, rfl⟩
theorem qf_X7_45 : aQ (.fieldLink RX7 45 (TX7 16).1 (TX7 16).2.1 (TX7 16).2.2.1) := aQ.at 844 (by decide +kernel) (by decide +kernel)
theorem fl_X7_45 : aFl RX7 45 7 16 := ⟨RX7, TX7, 25, rfl, u_X7, by decide, qf_X7_45⟩
theorem fp_X7_45 : aFp RX7 45 7 16 true (.array .long) := ⟨RX7, TX7, 25, tyX7, rfl, u_X7, by decide, qf_X7_45, tyX7_ok, nmX7, rfl, rfl, rfl⟩
theorem qf_X7_88 : aQ (.fieldLink RX7 88 (TX7 17).1 (TX7 17).2.1 (TX7 17).2.2.1) := aQ.at 845 (by decide +kernel) (by decide +kernel)
theorem fl_X7_88 : aFl RX7 88 7 17 := ⟨RX7, TX7, 25, rfl, u_X7, by decide, qf_X7_88⟩
theorem fp_X7_88 : aFp RX7 88 7 17 false (.int) := ⟨RX7, TX7, 25, tyX7, rfl, u_X7, by decide, qf_X7_88, tyX7_ok, nmX7, rfl, rfl, rfl⟩
theorem qf_X7_48 : aQ (.fieldLink RX7 48 (TX7 18).1 (TX7 18).2.1 (TX7 18).2.2.1) := aQ.at 846 (by decide +kernel) (by decide +kernel)
theorem fl_X7_48 : aFl RX7 48 7 18 := ⟨RX7, TX7, 25, rfl, u_X7, by decide, qf_X7_48⟩
theorem fp_X7_48 : aFp RX7 48 7 18 true (.array .int) := ⟨RX7, TX7, 25, tyX7, rfl, u_X7, by decide, qf_X7_48, tyX7_ok, nmX7, rfl, rfl, rfl⟩
theorem qf_X7_51 : aQ (.fieldLink RX7 51 (TX7 19).1 (TX7 19).2.1 (TX7 19).2.2.1) := aQ.at 847 (by decide +kernel) (by decide +kernel)
theorem fl_X7_51 : aFl RX7 51 7 19 := ⟨RX7, TX7, 25, rfl, u_X7, by decide, qf_X7_51⟩
theorem fp_X7_51 : aFp RX7 51 7 19 true (.array .int) := ⟨RX7, TX7, 25, tyX7, rfl, u_X7, by decide, qf_X7_51, tyX7_ok, nmX7, rfl, rfl, rfl⟩
theorem qf_X7_54 : aQ (.fieldLink RX7 54 (TX7 20).1 (TX7 20).2.1 (TX7 20).2.2.1) := aQ.at 848 (by decide +kernel) (by decide +kernel)
theorem fl_X7_54 : aFl RX7 54 7 20 := ⟨RX7, TX7, 25, rfl, u_X7, by decide, qf_X7_54⟩
theorem fp_X7_54 : aFp RX7 54 7 20 true (.array .int) := ⟨RX7, TX7, 25, tyX7, rfl, u_X7, by decide, qf_X7_54, tyX7_ok, nmX7, rfl, rfl, rfl⟩
theorem qf_X7_57 : aQ (.fieldLink RX7 57 (TX7 21).1 (TX7 21).2.1 (TX7 21).2.2.1) := aQ.at 849 (by decide +kernel) (by decide +kernel)
theorem fl_X7_57 : aFl RX7 57 7 21 := ⟨RX7, TX7, 25, rfl, u_X7, by decide, qf_X7_57⟩
theorem fp_X7_57 : aFp RX7 57 7 21 true (.array .long) := ⟨RX7, TX7, 25, tyX7, rfl, u_X7, by decide, qf_X7_57, tyX7_ok, nmX7, rfl, rfl, rfl⟩
theorem qf_X7_60 : aQ (.fieldLink RX7 60 (TX7 22).1 (TX7 22).2.1 (TX7 22).2.2.1) := aQ.at 850 (by decide +kernel) (by decide +kernel)
theorem fl_X7_60 : aFl RX7 60 7 22 := ⟨RX7, TX7, 25, rfl, u_X7, by decide, qf_X7_60⟩
theorem fp_X7_60 : aFp RX7 60 7 22 true (.array .int) := ⟨RX7, TX7, 25, tyX7, rfl, u_X7, by decide, qf_X7_60, tyX7_ok, nmX7, rfl, rfl, rfl⟩
theorem qf_X7_63 : aQ (.fieldLink RX7 63 (TX7 23).1 (TX7 23).2.1 (TX7 23).2.2.1) := aQ.at 851 (by decide +kernel) (by decide +kernel)
theorem fl_X7_63 : aFl RX7 63 7 23 := ⟨RX7, TX7, 25, rfl, u_X7, by decide, qf_X7_63⟩
theorem fp_X7_63 : aFp RX7 63 7 23 true (.array .int) := ⟨RX7, TX7, 25, tyX7, rfl, u_X7, by decide, qf_X7_63, tyX7_ok, nmX7, rfl, rfl, rfl⟩
theorem qf_X7_66 : aQ (.fieldLink RX7 66 (TX7 24).1 (TX7 24).2.1 (TX7 24).2.2.1) := aQ.at 852 (by decide +kernel) (by decide +kernel)
theorem fl_X7_66 : aFl RX7 66 7 24 := ⟨RX7, TX7, 25, rfl, u_X7, by decide, qf_X7_66⟩
theorem fp_X7_66 : aFp RX7 66 7 24 true (.array .int) := ⟨RX7, TX7, 25, tyX7, rfl, u_X7, by decide, qf_X7_66, tyX7_ok, nmX7, rfl, rfl, rfl⟩
end
section
/-! ===== words of the throws ===== -/
theorem tw_54 : aTw RX6 50 54 "java/lang/IllegalArgumentException" ["java/lang/RuntimeException", "java/lang/Exception"] := by
  refine ⟨kl_X6_50, ini_IllegalArgumentException, ?_, ?_, by decide +kernel, by decide +kernel⟩
  · have h : (vx_atS RX6 54 "java/lang/IllegalArgumentException" ["java/lang/RuntimeException", "java/lang/Exception"]).all (fun w => decide (w ∈ lw_tbl) && aWk w) = true := by decide +kernel
    intro w hw
    have := List.all_eq_true.mp h w hw
    simp only [Bool.and_eq_true, decide_eq_true_eq] at this
    exact this
  · have h : (Cond.classLink RX6 50 "java/lang/IllegalArgumentException" :: Cond.initialized "java/lang/IllegalArgumentException" :: vx_atS RX6 54 "java/lang/IllegalArgumentException" ["java/lang/RuntimeException", "java/lang/Exception"]).all vx_ot = true := by decide +kernel
    exact fun w hw => List.all_eq_true.mp h w hw
theorem tw_105 : aTw RX6 101 105 "java/lang/IllegalStateException" ["java/lang/RuntimeException", "java/lang/Exception"] := by
  refine ⟨kl_X6_101, ini_IllegalStateException, ?_, ?_, by decide +kernel, by decide +kernel⟩
  · have h : (vx_atS RX6 105 "java/lang/IllegalStateException" ["java/lang/RuntimeException", "java/lang/Exception"]).all (fun w => decide (w ∈ lw_tbl) && aWk w) = true := by decide +kernel
    intro w hw
    have := List.all_eq_true.mp h w hw
    simp only [Bool.and_eq_true, decide_eq_true_eq] at this
    exact this
  · have h : (Cond.classLink RX6 101 "java/lang/IllegalStateException" :: Cond.initialized "java/lang/IllegalStateException" :: vx_atS RX6 105 "java/lang/IllegalStateException" ["java/lang/RuntimeException", "java/lang/Exception"]).all vx_ot = true := by decide +kernel
    exact fun w hw => List.all_eq_true.mp h w hw
theorem tw_186 : aTw RX6 182 186 "java/lang/IndexOutOfBoundsException" ["java/lang/RuntimeException", "java/lang/Exception"] := by
  refine ⟨kl_X6_182, ini_IndexOutOfBoundsException, ?_, ?_, by decide +kernel, by decide +kernel⟩
  · have h : (vx_atS RX6 186 "java/lang/IndexOutOfBoundsException" ["java/lang/RuntimeException", "java/lang/Exception"]).all (fun w => decide (w ∈ lw_tbl) && aWk w) = true := by decide +kernel
    intro w hw
    have := List.all_eq_true.mp h w hw
    simp only [Bool.and_eq_true, decide_eq_true_eq] at this
    exact this
  · have h : (Cond.classLink RX6 182 "java/lang/IndexOutOfBoundsException" :: Cond.initialized "java/lang/IndexOutOfBoundsException" :: vx_atS RX6 186 "java/lang/IndexOutOfBoundsException" ["java/lang/RuntimeException", "java/lang/Exception"]).all vx_ot = true := by decide +kernel
    exact fun w hw => List.all_eq_true.mp h w hw
end
section
/-! ===== calls of methods that don't throw (written by wip/whole/wraps.py) ===== -/
def aKV (M M' : aM) (idx n ci : Nat) : Prop := aCb M' n ∧ M'.2.2.2.2.1 = [] ∧ aQ (.methodLink M.1.cls idx M'.1) ∧ aQ (.instanceMethod M'.1) ∧ aQ (.selects M'.1.cls M'.1 M'.1) ∧ (∃ T N, vwCl[ci]? = some (M'.1.cls, T, N)) ∧ (M'.2.2.2.2.2.1 + 1 ≤ M.2.2.2.2.2.1 ∧ 8 + (M'.2.2.1 + 11) + M'.2.2.2.2.2.2.1 ≤ M.2.2.2.2.2.2.1)
def aKS (M M' : aM) (idx n : Nat) : Prop := aCb M' n ∧ M'.2.2.2.2.1 = [] ∧ aQ (.methodLink M.1.cls idx M'.1) ∧ aQ (.static M'.1) ∧ (M'.2.2.2.2.2.1 + 1 ≤ M.2.2.2.2.2.1 ∧ 8 + (M'.2.2.1 + 11) + M'.2.2.2.2.2.2.1 ≤ M.2.2.2.2.2.2.1)
def aKSN (M M' : aM) (idx n : Nat) : Prop := aCb M' n ∧ M'.2.2.2.2.1 = [] ∧ (∃ host, aQ (.methodLinkNest M.1.cls idx M'.1 host)) ∧ aQ (.static M'.1) ∧ (M'.2.2.2.2.2.1 + 1 ≤ M.2.2.2.2.2.1 ∧ 8 + (M'.2.2.1 + 11) + M'.2.2.2.2.2.2.1 ≤ M.2.2.2.2.2.2.1)
def aKI (M M' : aM) (idx n : Nat) : Prop := aCb M' n ∧ M'.2.2.2.2.1 = [] ∧ M'.2.2.2.1 = none ∧ (aQ (.methodLink M.1.cls idx M'.1) ∨ ∃ host, aQ (.methodLinkNest M.1.cls idx M'.1 host)) ∧ aQ (.instanceMethod M'.1) ∧ M'.1.name = "<init>" ∧ (M'.2.2.2.2.2.1 + 1 ≤ M.2.2.2.2.2.1 ∧ 8 + (M'.2.2.1 + 11) + M'.2.2.2.2.2.2.1 ≤ M.2.2.2.2.2.2.1)
section ACW
variable {l : Launch} {X : aX} {M M' : aM} {F : aPh} {kc ks pc : Nat} {L st rest As av : List Value} {h hc h1 : List aCell} {rs : List Nat} {Q : aQt} {n idx ci b : Nat} {fs : List Value}
theorem a_ViR {x : Int32} (is : List Nat) (hk : aKV M M' idx n ci) (hC : aRd l X M' rs (.ref b :: As) hc (.int x)) (hd : decode M.2.1 pc = .ok (.invokevirtual idx, 3)) (hnn : As.length = n) (hrc : hc[b]? = some (aOb ci fs)) (hs : aSel h is hc) (hn : va_nd is = true) (hst : st = aPush ((.ref b :: As).map (aRv (aRi h.length is))) rest) (hkeep : aKeep is rs h.length L rest h F.1 = true) (hcat : (rest.map fun v => v.category).sum ≤ 8) (hf : kc ≤ aMc M ∧ ks ≤ aMs M) (h0 : aMc M' = 0 ∧ aMs M' = 0) (kk : aJ l X M F kc ks (pc + 3) L (.int x :: rest) h) : aJ l X M F kc ks pc L st h := by
  obtain ⟨k1, k2, k3, k4, k5, ⟨T, N, k6⟩, k7⟩ := hk
  refine a_callV (C := RX0) hC k1 k2 k3 k4 k5 rfl hnn hrc k6 hs hn hst hkeep hcat k7 (by rw [h0.1, h0.2]; exact hf) hd (fun E h' z => nomatch z.1) (fun v h' z => ?_)
  obtain ⟨z1, rfl⟩ := z
  cases z1
  exact ⟨by rw [hs.len]; exact Nat.le_refl _, by rw [h0.1, h0.2, aMg_id hs hn]; exact kk⟩
theorem a_ViW {x : Int32} (is : List Nat) (h2 : List aCell) (hk : aKV M M' idx n ci) (hC : aWr l X M' rs (.ref b :: As) hc (some (.int x)) h1) (hd : decode M.2.1 pc = .ok (.invokevirtual idx, 3)) (hnn : As.length = n) (hrc : hc[b]? = some (aOb ci fs)) (hs : aSel h is hc) (hn : va_nd is = true) (hst : st = aPush ((.ref b :: As).map (aRv (aRi h.length is))) rest) (hkeep : aKeep is rs h.length L rest h F.1 = true) (hcat : (rest.map fun v => v.category).sum ≤ 8) (hf : kc ≤ aMc M ∧ ks ≤ aMs M) (h0 : aMc M' = 0 ∧ aMs M' = 0) (hle : is.length ≤ h1.length) (hm : aMg h is h1 = h2) (kk : aJ l X M F kc ks (pc + 3) L (.int x :: rest) h2) : aJ l X M F kc ks pc L st h := by
  obtain ⟨k1, k2, k3, k4, k5, ⟨T, N, k6⟩, k7⟩ := hk
  refine a_callV (C := RX0) hC k1 k2 k3 k4 k5 rfl hnn hrc k6 hs hn hst hkeep hcat k7 (by rw [h0.1, h0.2]; exact hf) hd (fun E h' z => nomatch z.1) (fun v h' z => ?_)
  obtain ⟨z1, rfl⟩ := z
  cases z1
  exact ⟨hle, by rw [h0.1, h0.2, hm]; exact kk⟩
theorem a_VlR {x : Int64} (is : List Nat) (hk : aKV M M' idx n ci) (hC : aRd l X M' rs (.ref b :: As) hc (.long x)) (hd : decode M.2.1 pc = .ok (.invokevirtual idx, 3)) (hnn : As.length = n) (hrc : hc[b]? = some (aOb ci fs)) (hs : aSel h is hc) (hn : va_nd is = true) (hst : st = aPush ((.ref b :: As).map (aRv (aRi h.length is))) rest) (hkeep : aKeep is rs h.length L rest h F.1 = true) (hcat : (rest.map fun v => v.category).sum ≤ 8) (hf : kc ≤ aMc M ∧ ks ≤ aMs M) (h0 : aMc M' = 0 ∧ aMs M' = 0) (kk : aJ l X M F kc ks (pc + 3) L (.long x :: rest) h) : aJ l X M F kc ks pc L st h := by
  obtain ⟨k1, k2, k3, k4, k5, ⟨T, N, k6⟩, k7⟩ := hk
  refine a_callV (C := RX0) hC k1 k2 k3 k4 k5 rfl hnn hrc k6 hs hn hst hkeep hcat k7 (by rw [h0.1, h0.2]; exact hf) hd (fun E h' z => nomatch z.1) (fun v h' z => ?_)
  obtain ⟨z1, rfl⟩ := z
  cases z1
  exact ⟨by rw [hs.len]; exact Nat.le_refl _, by rw [h0.1, h0.2, aMg_id hs hn]; exact kk⟩
theorem a_VlW {x : Int64} (is : List Nat) (h2 : List aCell) (hk : aKV M M' idx n ci) (hC : aWr l X M' rs (.ref b :: As) hc (some (.long x)) h1) (hd : decode M.2.1 pc = .ok (.invokevirtual idx, 3)) (hnn : As.length = n) (hrc : hc[b]? = some (aOb ci fs)) (hs : aSel h is hc) (hn : va_nd is = true) (hst : st = aPush ((.ref b :: As).map (aRv (aRi h.length is))) rest) (hkeep : aKeep is rs h.length L rest h F.1 = true) (hcat : (rest.map fun v => v.category).sum ≤ 8) (hf : kc ≤ aMc M ∧ ks ≤ aMs M) (h0 : aMc M' = 0 ∧ aMs M' = 0) (hle : is.length ≤ h1.length) (hm : aMg h is h1 = h2) (kk : aJ l X M F kc ks (pc + 3) L (.long x :: rest) h2) : aJ l X M F kc ks pc L st h := by
  obtain ⟨k1, k2, k3, k4, k5, ⟨T, N, k6⟩, k7⟩ := hk
  refine a_callV (C := RX0) hC k1 k2 k3 k4 k5 rfl hnn hrc k6 hs hn hst hkeep hcat k7 (by rw [h0.1, h0.2]; exact hf) hd (fun E h' z => nomatch z.1) (fun v h' z => ?_)
  obtain ⟨z1, rfl⟩ := z
  cases z1
  exact ⟨hle, by rw [h0.1, h0.2, hm]; exact kk⟩
theorem a_VdR {x : UInt64} (is : List Nat) (hk : aKV M M' idx n ci) (hC : aRd l X M' rs (.ref b :: As) hc (.double x)) (hd : decode M.2.1 pc = .ok (.invokevirtual idx, 3)) (hnn : As.length = n) (hrc : hc[b]? = some (aOb ci fs)) (hs : aSel h is hc) (hn : va_nd is = true) (hst : st = aPush ((.ref b :: As).map (aRv (aRi h.length is))) rest) (hkeep : aKeep is rs h.length L rest h F.1 = true) (hcat : (rest.map fun v => v.category).sum ≤ 8) (hf : kc ≤ aMc M ∧ ks ≤ aMs M) (h0 : aMc M' = 0 ∧ aMs M' = 0) (kk : aJ l X M F kc ks (pc + 3) L (.double x :: rest) h) : aJ l X M F kc ks pc L st h := by
  obtain ⟨k1, k2, k3, k4, k5, ⟨T, N, k6⟩, k7⟩ := hk
  refine a_callV (C := RX0) hC k1 k2 k3 k4 k5 rfl hnn hrc k6 hs hn hst hkeep hcat k7 (by rw [h0.1, h0.2]; exact hf) hd (fun E h' z => nomatch z.1) (fun v h' z => ?_)
  obtain ⟨z1, rfl⟩ := z
  cases z1
  exact ⟨by rw [hs.len]; exact Nat.le_refl _, by rw [h0.1, h0.2, aMg_id hs hn]; exact kk⟩
theorem a_VdW {x : UInt64} (is : List Nat) (h2 : List aCell) (hk : aKV M M' idx n ci) (hC : aWr l X M' rs (.ref b :: As) hc (some (.double x)) h1) (hd : decode M.2.1 pc = .ok (.invokevirtual idx, 3)) (hnn : As.length = n) (hrc : hc[b]? = some (aOb ci fs)) (hs : aSel h is hc) (hn : va_nd is = true) (hst : st = aPush ((.ref b :: As).map (aRv (aRi h.length is))) rest) (hkeep : aKeep is rs h.length L rest h F.1 = true) (hcat : (rest.map fun v => v.category).sum ≤ 8) (hf : kc ≤ aMc M ∧ ks ≤ aMs M) (h0 : aMc M' = 0 ∧ aMs M' = 0) (hle : is.length ≤ h1.length) (hm : aMg h is h1 = h2) (kk : aJ l X M F kc ks (pc + 3) L (.double x :: rest) h2) : aJ l X M F kc ks pc L st h := by
  obtain ⟨k1, k2, k3, k4, k5, ⟨T, N, k6⟩, k7⟩ := hk
  refine a_callV (C := RX0) hC k1 k2 k3 k4 k5 rfl hnn hrc k6 hs hn hst hkeep hcat k7 (by rw [h0.1, h0.2]; exact hf) hd (fun E h' z => nomatch z.1) (fun v h' z => ?_)
  obtain ⟨z1, rfl⟩ := z
  cases z1
  exact ⟨hle, by rw [h0.1, h0.2, hm]; exact kk⟩
theorem a_VvW (is : List Nat) (h2 : List aCell) (hk : aKV M M' idx n ci) (hC : aWr l X M' rs (.ref b :: As) hc none h1) (hd : decode M.2.1 pc = .ok (.invokevirtual idx, 3)) (hnn : As.length = n) (hrc : hc[b]? = some (aOb ci fs)) (hs : aSel h is hc) (hn : va_nd is = true) (hst : st = aPush ((.ref b :: As).map (aRv (aRi h.length is))) rest) (hkeep : aKeep is rs h.length L rest h F.1 = true) (hcat : (rest.map fun v => v.category).sum ≤ 8) (hf : kc ≤ aMc M ∧ ks ≤ aMs M) (h0 : aMc M' = 0 ∧ aMs M' = 0) (hle : is.length ≤ h1.length) (hm : aMg h is h1 = h2) (kk : aJ l X M F kc ks (pc + 3) L rest h2) : aJ l X M F kc ks pc L st h := by
  obtain ⟨k1, k2, k3, k4, k5, ⟨T, N, k6⟩, k7⟩ := hk
  refine a_callV (C := RX0) hC k1 k2 k3 k4 k5 rfl hnn hrc k6 hs hn hst hkeep hcat k7 (by rw [h0.1, h0.2]; exact hf) hd (fun E h' z => nomatch z.1) (fun v h' z => ?_)
  obtain ⟨z1, rfl⟩ := z
  cases z1
  exact ⟨hle, by rw [h0.1, h0.2, hm]; exact kk⟩
theorem a_SiR {x : Int32} (is : List Nat) (hk : aKS M M' idx n) (hC : aRd l X M' rs av hc (.int x)) (hd : decode M.2.1 pc = .ok (.invokestatic idx, 3)) (hnn : av.length = n) (hs : aSel h is hc) (hn : va_nd is = true) (hst : st = aPush (av.map (aRv (aRi h.length is))) rest) (hkeep : aKeep is rs h.length L rest h F.1 = true) (hcat : (rest.map fun v => v.category).sum ≤ 8) (hf : kc ≤ aMc M ∧ ks ≤ aMs M) (h0 : aMc M' = 0 ∧ aMs M' = 0) (kk : aJ l X M F kc ks (pc + 3) L (.int x :: rest) h) : aJ l X M F kc ks pc L st h := by
  obtain ⟨k1, k2, k3, k4, k5⟩ := hk
  refine a_callS hC k1 k2 k3 k4 hnn hs hn hst hkeep hcat k5 (by rw [h0.1, h0.2]; exact hf) hd (fun E h' z => nomatch z.1) (fun v h' z => ?_)
  obtain ⟨z1, rfl⟩ := z
  cases z1
  exact ⟨by rw [hs.len]; exact Nat.le_refl _, by rw [h0.1, h0.2, aMg_id hs hn]; exact kk⟩
theorem a_SiW {x : Int32} (is : List Nat) (h2 : List aCell) (hk : aKS M M' idx n) (hC : aWr l X M' rs av hc (some (.int x)) h1) (hd : decode M.2.1 pc = .ok (.invokestatic idx, 3)) (hnn : av.length = n) (hs : aSel h is hc) (hn : va_nd is = true) (hst : st = aPush (av.map (aRv (aRi h.length is))) rest) (hkeep : aKeep is rs h.length L rest h F.1 = true) (hcat : (rest.map fun v => v.category).sum ≤ 8) (hf : kc ≤ aMc M ∧ ks ≤ aMs M) (h0 : aMc M' = 0 ∧ aMs M' = 0) (hle : is.length ≤ h1.length) (hm : aMg h is h1 = h2) (kk : aJ l X M F kc ks (pc + 3) L (.int x :: rest) h2) : aJ l X M F kc ks pc L st h := by
  obtain ⟨k1, k2, k3, k4, k5⟩ := hk
  refine a_callS hC k1 k2 k3 k4 hnn hs hn hst hkeep hcat k5 (by rw [h0.1, h0.2]; exact hf) hd (fun E h' z => nomatch z.1) (fun v h' z => ?_)
  obtain ⟨z1, rfl⟩ := z
  cases z1
  exact ⟨hle, by rw [h0.1, h0.2, hm]; exact kk⟩
theorem a_SlR {x : Int64} (is : List Nat) (hk : aKS M M' idx n) (hC : aRd l X M' rs av hc (.long x)) (hd : decode M.2.1 pc = .ok (.invokestatic idx, 3)) (hnn : av.length = n) (hs : aSel h is hc) (hn : va_nd is = true) (hst : st = aPush (av.map (aRv (aRi h.length is))) rest) (hkeep : aKeep is rs h.length L rest h F.1 = true) (hcat : (rest.map fun v => v.category).sum ≤ 8) (hf : kc ≤ aMc M ∧ ks ≤ aMs M) (h0 : aMc M' = 0 ∧ aMs M' = 0) (kk : aJ l X M F kc ks (pc + 3) L (.long x :: rest) h) : aJ l X M F kc ks pc L st h := by
  obtain ⟨k1, k2, k3, k4, k5⟩ := hk
  refine a_callS hC k1 k2 k3 k4 hnn hs hn hst hkeep hcat k5 (by rw [h0.1, h0.2]; exact hf) hd (fun E h' z => nomatch z.1) (fun v h' z => ?_)
  obtain ⟨z1, rfl⟩ := z
  cases z1
  exact ⟨by rw [hs.len]; exact Nat.le_refl _, by rw [h0.1, h0.2, aMg_id hs hn]; exact kk⟩
theorem a_SlW {x : Int64} (is : List Nat) (h2 : List aCell) (hk : aKS M M' idx n) (hC : aWr l X M' rs av hc (some (.long x)) h1) (hd : decode M.2.1 pc = .ok (.invokestatic idx, 3)) (hnn : av.length = n) (hs : aSel h is hc) (hn : va_nd is = true) (hst : st = aPush (av.map (aRv (aRi h.length is))) rest) (hkeep : aKeep is rs h.length L rest h F.1 = true) (hcat : (rest.map fun v => v.category).sum ≤ 8) (hf : kc ≤ aMc M ∧ ks ≤ aMs M) (h0 : aMc M' = 0 ∧ aMs M' = 0) (hle : is.length ≤ h1.length) (hm : aMg h is h1 = h2) (kk : aJ l X M F kc ks (pc + 3) L (.long x :: rest) h2) : aJ l X M F kc ks pc L st h := by
  obtain ⟨k1, k2, k3, k4, k5⟩ := hk
  refine a_callS hC k1 k2 k3 k4 hnn hs hn hst hkeep hcat k5 (by rw [h0.1, h0.2]; exact hf) hd (fun E h' z => nomatch z.1) (fun v h' z => ?_)
  obtain ⟨z1, rfl⟩ := z
  cases z1
  exact ⟨hle, by rw [h0.1, h0.2, hm]; exact kk⟩
theorem a_SdR {x : UInt64} (is : List Nat) (hk : aKS M M' idx n) (hC : aRd l X M' rs av hc (.double x)) (hd : decode M.2.1 pc = .ok (.invokestatic idx, 3)) (hnn : av.length = n) (hs : aSel h is hc) (hn : va_nd is = true) (hst : st = aPush (av.map (aRv (aRi h.length is))) rest) (hkeep : aKeep is rs h.length L rest h F.1 = true) (hcat : (rest.map fun v => v.category).sum ≤ 8) (hf : kc ≤ aMc M ∧ ks ≤ aMs M) (h0 : aMc M' = 0 ∧ aMs M' = 0) (kk : aJ l X M F kc ks (pc + 3) L (.double x :: rest) h) : aJ l X M F kc ks pc L st h := by
  obtain ⟨k1, k2, k3, k4, k5⟩ := hk
  refine a_callS hC k1 k2 k3 k4 hnn hs hn hst hkeep hcat k5 (by rw [h0.1, h0.2]; exact hf) hd (fun E h' z => nomatch z.1) (fun v h' z => ?_)
  obtain ⟨z1, rfl⟩ := z
  cases z1
  exact ⟨by rw [hs.len]; exact Nat.le_refl _, by rw [h0.1, h0.2, aMg_id hs hn]; exact kk⟩
theorem a_SdW {x : UInt64} (is : List Nat) (h2 : List aCell) (hk : aKS M M' idx n) (hC : aWr l X M' rs av hc (some (.double x)) h1) (hd : decode M.2.1 pc = .ok (.invokestatic idx, 3)) (hnn : av.length = n) (hs : aSel h is hc) (hn : va_nd is = true) (hst : st = aPush (av.map (aRv (aRi h.length is))) rest) (hkeep : aKeep is rs h.length L rest h F.1 = true) (hcat : (rest.map fun v => v.category).sum ≤ 8) (hf : kc ≤ aMc M ∧ ks ≤ aMs M) (h0 : aMc M' = 0 ∧ aMs M' = 0) (hle : is.length ≤ h1.length) (hm : aMg h is h1 = h2) (kk : aJ l X M F kc ks (pc + 3) L (.double x :: rest) h2) : aJ l X M F kc ks pc L st h := by
  obtain ⟨k1, k2, k3, k4, k5⟩ := hk
  refine a_callS hC k1 k2 k3 k4 hnn hs hn hst hkeep hcat k5 (by rw [h0.1, h0.2]; exact hf) hd (fun E h' z => nomatch z.1) (fun v h' z => ?_)
  obtain ⟨z1, rfl⟩ := z
  cases z1
  exact ⟨hle, by rw [h0.1, h0.2, hm]; exact kk⟩
theorem a_SvW (is : List Nat) (h2 : List aCell) (hk : aKS M M' idx n) (hC : aWr l X M' rs av hc none h1) (hd : decode M.2.1 pc = .ok (.invokestatic idx, 3)) (hnn : av.length = n) (hs : aSel h is hc) (hn : va_nd is = true) (hst : st = aPush (av.map (aRv (aRi h.length is))) rest) (hkeep : aKeep is rs h.length L rest h F.1 = true) (hcat : (rest.map fun v => v.category).sum ≤ 8) (hf : kc ≤ aMc M ∧ ks ≤ aMs M) (h0 : aMc M' = 0 ∧ aMs M' = 0) (hle : is.length ≤ h1.length) (hm : aMg h is h1 = h2) (kk : aJ l X M F kc ks (pc + 3) L rest h2) : aJ l X M F kc ks pc L st h := by
  obtain ⟨k1, k2, k3, k4, k5⟩ := hk
  refine a_callS hC k1 k2 k3 k4 hnn hs hn hst hkeep hcat k5 (by rw [h0.1, h0.2]; exact hf) hd (fun E h' z => nomatch z.1) (fun v h' z => ?_)
  obtain ⟨z1, rfl⟩ := z
  cases z1
  exact ⟨hle, by rw [h0.1, h0.2, hm]; exact kk⟩
theorem a_SNiR {x : Int32} (is : List Nat) (hk : aKSN M M' idx n) (hC : aRd l X M' rs av hc (.int x)) (hd : decode M.2.1 pc = .ok (.invokestatic idx, 3)) (hnn : av.length = n) (hs : aSel h is hc) (hn : va_nd is = true) (hst : st = aPush (av.map (aRv (aRi h.length is))) rest) (hkeep : aKeep is rs h.length L rest h F.1 = true) (hcat : (rest.map fun v => v.category).sum ≤ 8) (hf : kc ≤ aMc M ∧ ks ≤ aMs M) (h0 : aMc M' = 0 ∧ aMs M' = 0) (kk : aJ l X M F kc ks (pc + 3) L (.int x :: rest) h) : aJ l X M F kc ks pc L st h := by
  obtain ⟨k1, k2, ⟨host, k3⟩, k4, k5⟩ := hk
  refine a_callSN hC (fun E h' z => nomatch z.1) k1 k2 k3 k4 hnn hs hn hst hkeep hcat k5 (by rw [h0.1, h0.2]; exact hf) hd (fun v h' z => ?_)
  obtain ⟨z1, rfl⟩ := z
  cases z1
  exact ⟨by rw [hs.len]; exact Nat.le_refl _, by rw [h0.1, h0.2, aMg_id hs hn]; exact kk⟩
theorem a_SNiW {x : Int32} (is : List Nat) (h2 : List aCell) (hk : aKSN M M' idx n) (hC : aWr l X M' rs av hc (some (.int x)) h1) (hd : decode M.2.1 pc = .ok (.invokestatic idx, 3)) (hnn : av.length = n) (hs : aSel h is hc) (hn : va_nd is = true) (hst : st = aPush (av.map (aRv (aRi h.length is))) rest) (hkeep : aKeep is rs h.length L rest h F.1 = true) (hcat : (rest.map fun v => v.category).sum ≤ 8) (hf : kc ≤ aMc M ∧ ks ≤ aMs M) (h0 : aMc M' = 0 ∧ aMs M' = 0) (hle : is.length ≤ h1.length) (hm : aMg h is h1 = h2) (kk : aJ l X M F kc ks (pc + 3) L (.int x :: rest) h2) : aJ l X M F kc ks pc L st h := by
  obtain ⟨k1, k2, ⟨host, k3⟩, k4, k5⟩ := hk
  refine a_callSN hC (fun E h' z => nomatch z.1) k1 k2 k3 k4 hnn hs hn hst hkeep hcat k5 (by rw [h0.1, h0.2]; exact hf) hd (fun v h' z => ?_)
  obtain ⟨z1, rfl⟩ := z
  cases z1
  exact ⟨hle, by rw [h0.1, h0.2, hm]; exact kk⟩
theorem a_SNlR {x : Int64} (is : List Nat) (hk : aKSN M M' idx n) (hC : aRd l X M' rs av hc (.long x)) (hd : decode M.2.1 pc = .ok (.invokestatic idx, 3)) (hnn : av.length = n) (hs : aSel h is hc) (hn : va_nd is = true) (hst : st = aPush (av.map (aRv (aRi h.length is))) rest) (hkeep : aKeep is rs h.length L rest h F.1 = true) (hcat : (rest.map fun v => v.category).sum ≤ 8) (hf : kc ≤ aMc M ∧ ks ≤ aMs M) (h0 : aMc M' = 0 ∧ aMs M' = 0) (kk : aJ l X M F kc ks (pc + 3) L (.long x :: rest) h) : aJ l X M F kc ks pc L st h := by
  obtain ⟨k1, k2, ⟨host, k3⟩, k4, k5⟩ := hk
  refine a_callSN hC (fun E h' z => nomatch z.1) k1 k2 k3 k4 hnn hs hn hst hkeep hcat k5 (by rw [h0.1, h0.2]; exact hf) hd (fun v h' z => ?_)
  obtain ⟨z1, rfl⟩ := z
  cases z1
  exact ⟨by rw [hs.len]; exact Nat.le_refl _, by rw [h0.1, h0.2, aMg_id hs hn]; exact kk⟩
theorem a_SNlW {x : Int64} (is : List Nat) (h2 : List aCell) (hk : aKSN M M' idx n) (hC : aWr l X M' rs av hc (some (.long x)) h1) (hd : decode M.2.1 pc = .ok (.invokestatic idx, 3)) (hnn : av.length = n) (hs : aSel h is hc) (hn : va_nd is = true) (hst : st = aPush (av.map (aRv (aRi h.length is))) rest) (hkeep : aKeep is rs h.length L rest h F.1 = true) (hcat : (rest.map fun v => v.category).sum ≤ 8) (hf : kc ≤ aMc M ∧ ks ≤ aMs M) (h0 : aMc M' = 0 ∧ aMs M' = 0) (hle : is.length ≤ h1.length) (hm : aMg h is h1 = h2) (kk : aJ l X M F kc ks (pc + 3) L (.long x :: rest) h2) : aJ l X M F kc ks pc L st h := by
  obtain ⟨k1, k2, ⟨host, k3⟩, k4, k5⟩ := hk
  refine a_callSN hC (fun E h' z => nomatch z.1) k1 k2 k3 k4 hnn hs hn hst hkeep hcat k5 (by rw [h0.1, h0.2]; exact hf) hd (fun v h' z => ?_)
  obtain ⟨z1, rfl⟩ := z
  cases z1
  exact ⟨hle, by rw [h0.1, h0.2, hm]; exact kk⟩
theorem a_SNdR {x : UInt64} (is : List Nat) (hk : aKSN M M' idx n) (hC : aRd l X M' rs av hc (.double x)) (hd : decode M.2.1 pc = .ok (.invokestatic idx, 3)) (hnn : av.length = n) (hs : aSel h is hc) (hn : va_nd is = true) (hst : st = aPush (av.map (aRv (aRi h.length is))) rest) (hkeep : aKeep is rs h.length L rest h F.1 = true) (hcat : (rest.map fun v => v.category).sum ≤ 8) (hf : kc ≤ aMc M ∧ ks ≤ aMs M) (h0 : aMc M' = 0 ∧ aMs M' = 0) (kk : aJ l X M F kc ks (pc + 3) L (.double x :: rest) h) : aJ l X M F kc ks pc L st h := by
  obtain ⟨k1, k2, ⟨host, k3⟩, k4, k5⟩ := hk
  refine a_callSN hC (fun E h' z => nomatch z.1) k1 k2 k3 k4 hnn hs hn hst hkeep hcat k5 (by rw [h0.1, h0.2]; exact hf) hd (fun v h' z => ?_)
  obtain ⟨z1, rfl⟩ := z
  cases z1
  exact ⟨by rw [hs.len]; exact Nat.le_refl _, by rw [h0.1, h0.2, aMg_id hs hn]; exact kk⟩
theorem a_SNdW {x : UInt64} (is : List Nat) (h2 : List aCell) (hk : aKSN M M' idx n) (hC : aWr l X M' rs av hc (some (.double x)) h1) (hd : decode M.2.1 pc = .ok (.invokestatic idx, 3)) (hnn : av.length = n) (hs : aSel h is hc) (hn : va_nd is = true) (hst : st = aPush (av.map (aRv (aRi h.length is))) rest) (hkeep : aKeep is rs h.length L rest h F.1 = true) (hcat : (rest.map fun v => v.category).sum ≤ 8) (hf : kc ≤ aMc M ∧ ks ≤ aMs M) (h0 : aMc M' = 0 ∧ aMs M' = 0) (hle : is.length ≤ h1.length) (hm : aMg h is h1 = h2) (kk : aJ l X M F kc ks (pc + 3) L (.double x :: rest) h2) : aJ l X M F kc ks pc L st h := by
  obtain ⟨k1, k2, ⟨host, k3⟩, k4, k5⟩ := hk
  refine a_callSN hC (fun E h' z => nomatch z.1) k1 k2 k3 k4 hnn hs hn hst hkeep hcat k5 (by rw [h0.1, h0.2]; exact hf) hd (fun v h' z => ?_)
  obtain ⟨z1, rfl⟩ := z
  cases z1
  exact ⟨hle, by rw [h0.1, h0.2, hm]; exact kk⟩
theorem a_SNvW (is : List Nat) (h2 : List aCell) (hk : aKSN M M' idx n) (hC : aWr l X M' rs av hc none h1) (hd : decode M.2.1 pc = .ok (.invokestatic idx, 3)) (hnn : av.length = n) (hs : aSel h is hc) (hn : va_nd is = true) (hst : st = aPush (av.map (aRv (aRi h.length is))) rest) (hkeep : aKeep is rs h.length L rest h F.1 = true) (hcat : (rest.map fun v => v.category).sum ≤ 8) (hf : kc ≤ aMc M ∧ ks ≤ aMs M) (h0 : aMc M' = 0 ∧ aMs M' = 0) (hle : is.length ≤ h1.length) (hm : aMg h is h1 = h2) (kk : aJ l X M F kc ks (pc + 3) L rest h2) : aJ l X M F kc ks pc L st h := by
  obtain ⟨k1, k2, ⟨host, k3⟩, k4, k5⟩ := hk
  refine a_callSN hC (fun E h' z => nomatch z.1) k1 k2 k3 k4 hnn hs hn hst hkeep hcat k5 (by rw [h0.1, h0.2]; exact hf) hd (fun v h' z => ?_)
  obtain ⟨z1, rfl⟩ := z
  cases z1
  exact ⟨hle, by rw [h0.1, h0.2, hm]; exact kk⟩
theorem a_IvW (is : List Nat) (h2 : List aCell) (hk : aKI M M' idx n) (hC : aWr l X M' rs (.ref b :: As) hc none h1) (hd : decode M.2.1 pc = .ok (.invokespecial idx, 3)) (hnn : As.length = n) (hs : aSel h is hc) (hn : va_nd is = true) (hst : st = aPush ((.ref b :: As).map (aRv (aRi h.length is))) rest) (hkeep : aKeep is rs h.length L rest h F.1 = true) (hcat : (rest.map fun v => v.category).sum ≤ 8) (hf : kc + aMc M' ≤ aMc M ∧ ks + aMs M' ≤ aMs M) (hle : is.length ≤ h1.length) (hm : aMg h is h1 = h2) (kk : aJ l X M F (kc + aMc M') (ks + aMs M') (pc + 3) L rest h2) : aJ l X M F kc ks pc L st h := by
  obtain ⟨k1, k2, k3, k4, k5, k6, k7⟩ := hk
  have hj : ∀ (v : Option Value) (h' : List aCell), (Sum.inl v = (Sum.inl none : Option Value ⊕ String) ∧ h' = h1) → is.length ≤ h'.length ∧ aJ l X M F (kc + aMc M') (ks + aMs M') (pc + 3) L ((v.map (aRv (aRi h.length is))).toList ++ rest) (aMg h is h') := by
    intro v h' z
    obtain ⟨z1, rfl⟩ := z
    cases z1
    exact ⟨hle, by rw [hm]; exact kk⟩
  rcases k4 with k4 | ⟨host, k4⟩
  · exact a_callI hC (fun E h' z => nomatch z.1) k1 k2 k3 k4 k5 k6 rfl hnn hs hn hst hkeep hcat k7 hf hd hj
  · exact a_callIN hC (fun E h' z => nomatch z.1) k1 k2 k3 k4 k5 k6 rfl hnn hs hn hst hkeep hcat k7 hf hd hj
end ACW
end
section
/-! written by wip/whole/pp.py out of wip/whole/src/13.base.lean -/

/-! ===== pure words ===== -/
def bI (b : Bool) : Int32 := if b then 1 else 0
theorem bI_0 {b : Bool} (h : bI b = 0) : b = false := by cases b with | false => rfl | true => exact absurd h (by decide)
theorem bI_1 {b : Bool} (h : ¬ bI b = 0) : b = true := by cases b with | true => rfl | false => exact absurd rfl h
theorem bI_nar (b : Bool) : narrow .boolean (.int (bI b)) = .int (bI b) := by cases b <;> rfl
theorem bI_vp (b : Bool) : vp_nar .boolean (bI b) = bI b := by cases b <;> rfl
/-- a loop over places j, j + 1, .. -/
def aLp {σ : Type} (g : Nat → σ → σ) : Nat → Nat → σ → σ
  | 0, _, a => a
  | k + 1, j, a => aLp g k (j + 1) (g j a)
/-- the first place that P takes; -1 if there is none -/
def aFd (P : Nat → Bool) : Nat → Nat → Int32
  | 0, _ => -1
  | k + 1, j => if P j then nI j else aFd P k (j + 1)
theorem aLp_congr {σ : Type} {g g' : Nat → σ → σ} (N : Nat) (h : ∀ j a, j < N → g j a = g' j a) : ∀ (k j : Nat) (a : σ), j + k = N → aLp g k j a = aLp g' k j a
  | 0, _, _, _ => rfl
  | k + 1, j, a, hj => by
    show aLp g k (j + 1) (g j a) = aLp g' k (j + 1) (g' j a)
    rw [h j a (by omega)]
    exact aLp_congr N h k (j + 1) _ (by omega)
theorem aFd_congr {P P' : Nat → Bool} (N : Nat) (h : ∀ j, j < N → P j = P' j) : ∀ (k j : Nat), j + k = N → aFd P k j = aFd P' k j
  | 0, _, _ => rfl
  | k + 1, j, hj => by
    show (if P j then nI j else aFd P k (j + 1)) = (if P' j then nI j else aFd P' k (j + 1))
    rw [h j (by omega), aFd_congr N h k (j + 1) (by omega)]
theorem ge10_f {j : Nat} (h : j < 10) : ¬ (10 : Int32) ≤ nI j := nI_ge (b := 10) h (by decide)
theorem ge10_t : (10 : Int32) ≤ nI 10 := by decide
theorem in10 {j : Nat} (h : j < 10) : vp_in (nI j) 10 := vp_in_nI h (by decide)
theorem cl10 {j : Nat} (h : j < 10) : (nI j).toNatClampNeg = j := nI_clamp (by omega)
theorem i32_le_nI {c n : Nat} (hc : c < 2 ^ 31) (hn : n < 2 ^ 31) : nI c ≤ nI n ↔ c ≤ n := nI_leI hc hn
/-- the number of a server, as the class asks for it -/
def fNm (s : Int32) : Bool := decide (¬ s < 0) && decide (¬ (10 : Int32) ≤ s)
theorem fNm_in {s : Int32} (h : fNm s = true) : vp_in s 10 := by
  simp only [fNm, Bool.and_eq_true, decide_eq_true_eq] at h
  obtain ⟨j, hj, rfl⟩ := nI_of h.1
  refine vp_in_nI ?_ (by decide)
  rcases Nat.lt_or_ge j 10 with q | q
  · exact q
  · exact absurd (nI_le (a := 10) q hj) h.2
theorem fNm_j {j : Nat} (h : j < 10) : fNm (nI j) = true := by
  simp only [fNm, Bool.and_eq_true, decide_eq_true_eq]
  exact ⟨nI_pos (by omega), ge10_f h⟩
def fHs (nm : Nat → Int32) (s : Int32) : Bool := fNm s && decide (¬ nm s.toNatClampNeg = 0)
theorem fHs_in {nm : Nat → Int32} {s : Int32} (h : fHs nm s = true) : vp_in s 10 := by
  simp only [fHs, Bool.and_eq_true] at h
  exact fNm_in h.1
def fUp (nm up : Nat → Int32) (s : Int32) : Bool := fHs nm s && decide (¬ up s.toNatClampNeg = 0)
theorem fUp_in {nm up : Nat → Int32} {s : Int32} (h : fUp nm up s = true) : vp_in s 10 := by
  simp only [fUp, Bool.and_eq_true] at h
  exact fHs_in h.1
theorem fHs_j {nm : Nat → Int32} {j : Nat} (h : j < 10) : fHs nm (nI j) = decide (¬ nm j = 0) := by
  simp only [fHs, fNm_j h, cl10 h, Bool.true_and]
theorem fUp_j {nm up : Nat → Int32} {j : Nat} (h : j < 10) : fUp nm up (nI j) = (decide (¬ nm j = 0) && decide (¬ up j = 0)) := by
  simp only [fUp, fHs_j h, cl10 h]
/-- a fleet's cells -/
abbrev aFt (nm wt up : Nat → Int32) (ld : Nat → Int64) : List aCell := [aOb 0 [.ref 1, .ref 2, .ref 3, .ref 4], aIa 10 nm, aIa 10 wt, aBa 10 up, aLa 10 ld]
abbrev rs5 : List Nat := [0, 1, 2, 3, 4]
end
section
/-! written by wip/whole/pp.py out of wip/whole/src/14.fleet.lean -/
theorem dX0_isNumber_0 : decode cX0_isNumber 0 = .ok (.iload_n 0, 1) := by decide +kernel
theorem dX0_isNumber_1 : decode cX0_isNumber 1 = .ok (.ifCond .lt 13, 3) := by decide +kernel
theorem dX0_isNumber_4 : decode cX0_isNumber 4 = .ok (.iload_n 0, 1) := by decide +kernel
theorem dX0_isNumber_5 : decode cX0_isNumber 5 = .ok (.bipush 10, 2) := by decide +kernel
theorem dX0_isNumber_7 : decode cX0_isNumber 7 = .ok (.if_icmp .ge 7, 3) := by decide +kernel
theorem dX0_isNumber_10 : decode cX0_isNumber 10 = .ok (.iconst 1, 1) := by decide +kernel
theorem dX0_isNumber_11 : decode cX0_isNumber 11 = .ok (.goto 4, 3) := by decide +kernel
theorem dX0_isNumber_14 : decode cX0_isNumber 14 = .ok (.iconst 0, 1) := by decide +kernel
theorem dX0_isNumber_15 : decode cX0_isNumber 15 = .ok (.ireturn, 1) := by decide +kernel
theorem dX0_has_0 : decode cX0_has 0 = .ok (.iload_n 1, 1) := by decide +kernel
theorem dX0_has_1 : decode cX0_has 1 = .ok (.invokestatic 32, 3) := by decide +kernel
theorem dX0_has_4 : decode cX0_has 4 = .ok (.ifCond .eq 16, 3) := by decide +kernel
theorem dX0_has_7 : decode cX0_has 7 = .ok (.aload_n 0, 1) := by decide +kernel
theorem dX0_has_8 : decode cX0_has 8 = .ok (.getfield 9, 3) := by decide +kernel
theorem dX0_has_11 : decode cX0_has 11 = .ok (.iload_n 1, 1) := by decide +kernel
theorem dX0_has_12 : decode cX0_has 12 = .ok (.iaload, 1) := by decide +kernel
theorem dX0_has_13 : decode cX0_has 13 = .ok (.ifCond .eq 7, 3) := by decide +kernel
theorem dX0_has_16 : decode cX0_has 16 = .ok (.iconst 1, 1) := by decide +kernel
theorem dX0_has_17 : decode cX0_has 17 = .ok (.goto 4, 3) := by decide +kernel
theorem dX0_has_20 : decode cX0_has 20 = .ok (.iconst 0, 1) := by decide +kernel
theorem dX0_has_21 : decode cX0_has 21 = .ok (.ireturn, 1) := by decide +kernel
theorem dX0_isUp_0 : decode cX0_isUp 0 = .ok (.aload_n 0, 1) := by decide +kernel
theorem dX0_isUp_1 : decode cX0_isUp 1 = .ok (.iload_n 1, 1) := by decide +kernel
theorem dX0_isUp_2 : decode cX0_isUp 2 = .ok (.invokevirtual 36, 3) := by decide +kernel
theorem dX0_isUp_5 : decode cX0_isUp 5 = .ok (.ifCond .eq 16, 3) := by decide +kernel
theorem dX0_isUp_8 : decode cX0_isUp 8 = .ok (.aload_n 0, 1) := by decide +kernel
theorem dX0_isUp_9 : decode cX0_isUp 9 = .ok (.getfield 18, 3) := by decide +kernel
theorem dX0_isUp_12 : decode cX0_isUp 12 = .ok (.iload_n 1, 1) := by decide +kernel
theorem dX0_isUp_13 : decode cX0_isUp 13 = .ok (.baload, 1) := by decide +kernel
theorem dX0_isUp_14 : decode cX0_isUp 14 = .ok (.ifCond .eq 7, 3) := by decide +kernel
theorem dX0_isUp_17 : decode cX0_isUp 17 = .ok (.iconst 1, 1) := by decide +kernel
theorem dX0_isUp_18 : decode cX0_isUp 18 = .ok (.goto 4, 3) := by decide +kernel
theorem dX0_isUp_21 : decode cX0_isUp 21 = .ok (.iconst 0, 1) := by decide +kernel
theorem dX0_isUp_22 : decode cX0_isUp 22 = .ok (.ireturn, 1) := by decide +kernel
theorem dX0_name_0 : decode cX0_name 0 = .ok (.aload_n 0, 1) := by decide +kernel
theorem dX0_name_1 : decode cX0_name 1 = .ok (.iload_n 1, 1) := by decide +kernel
theorem dX0_name_2 : decode cX0_name 2 = .ok (.invokevirtual 36, 3) := by decide +kernel
theorem dX0_name_5 : decode cX0_name 5 = .ok (.ifCond .eq 12, 3) := by decide +kernel
theorem dX0_name_8 : decode cX0_name 8 = .ok (.aload_n 0, 1) := by decide +kernel
theorem dX0_name_9 : decode cX0_name 9 = .ok (.getfield 9, 3) := by decide +kernel
theorem dX0_name_12 : decode cX0_name 12 = .ok (.iload_n 1, 1) := by decide +kernel
theorem dX0_name_13 : decode cX0_name 13 = .ok (.iaload, 1) := by decide +kernel
theorem dX0_name_14 : decode cX0_name 14 = .ok (.goto 4, 3) := by decide +kernel
theorem dX0_name_17 : decode cX0_name 17 = .ok (.iconst 0, 1) := by decide +kernel
theorem dX0_name_18 : decode cX0_name 18 = .ok (.ireturn, 1) := by decide +kernel
theorem dX0_weight_0 : decode cX0_weight 0 = .ok (.aload_n 0, 1) := by decide +kernel
theorem dX0_weight_1 : decode cX0_weight 1 = .ok (.iload_n 1, 1) := by decide +kernel
theorem dX0_weight_2 : decode cX0_weight 2 = .ok (.invokevirtual 36, 3) := by decide +kernel
theorem dX0_weight_5 : decode cX0_weight 5 = .ok (.ifCond .eq 12, 3) := by decide +kernel
theorem dX0_weight_8 : decode cX0_weight 8 = .ok (.aload_n 0, 1) := by decide +kernel
theorem dX0_weight_9 : decode cX0_weight 9 = .ok (.getfield 15, 3) := by decide +kernel
theorem dX0_weight_12 : decode cX0_weight 12 = .ok (.iload_n 1, 1) := by decide +kernel
theorem dX0_weight_13 : decode cX0_weight 13 = .ok (.iaload, 1) := by decide +kernel
theorem dX0_weight_14 : decode cX0_weight 14 = .ok (.goto 4, 3) := by decide +kernel
theorem dX0_weight_17 : decode cX0_weight 17 = .ok (.iconst 0, 1) := by decide +kernel
theorem dX0_weight_18 : decode cX0_weight 18 = .ok (.ireturn, 1) := by decide +kernel
theorem dX0_load_0 : decode cX0_load 0 = .ok (.aload_n 0, 1) := by decide +kernel
theorem dX0_load_1 : decode cX0_load 1 = .ok (.iload_n 1, 1) := by decide +kernel
theorem dX0_load_2 : decode cX0_load 2 = .ok (.invokevirtual 36, 3) := by decide +kernel
theorem dX0_load_5 : decode cX0_load 5 = .ok (.ifCond .eq 12, 3) := by decide +kernel
theorem dX0_load_8 : decode cX0_load 8 = .ok (.aload_n 0, 1) := by decide +kernel
theorem dX0_load_9 : decode cX0_load 9 = .ok (.getfield 22, 3) := by decide +kernel
theorem dX0_load_12 : decode cX0_load 12 = .ok (.iload_n 1, 1) := by decide +kernel
theorem dX0_load_13 : decode cX0_load 13 = .ok (.laload, 1) := by decide +kernel
theorem dX0_load_14 : decode cX0_load 14 = .ok (.goto 4, 3) := by decide +kernel
theorem dX0_load_17 : decode cX0_load 17 = .ok (.lconst 0, 1) := by decide +kernel
theorem dX0_load_18 : decode cX0_load 18 = .ok (.lreturn, 1) := by decide +kernel
theorem dX0_size_0 : decode cX0_size 0 = .ok (.iconst 0, 1) := by decide +kernel
theorem dX0_size_1 : decode cX0_size 1 = .ok (.istore_n 1, 1) := by decide +kernel
theorem dX0_size_2 : decode cX0_size 2 = .ok (.iconst 0, 1) := by decide +kernel
theorem dX0_size_3 : decode cX0_size 3 = .ok (.istore_n 2, 1) := by decide +kernel
theorem dX0_size_4 : decode cX0_size 4 = .ok (.iload_n 2, 1) := by decide +kernel
theorem dX0_size_5 : decode cX0_size 5 = .ok (.bipush 10, 2) := by decide +kernel
theorem dX0_size_7 : decode cX0_size 7 = .ok (.if_icmp .ge 20, 3) := by decide +kernel
theorem dX0_size_10 : decode cX0_size 10 = .ok (.aload_n 0, 1) := by decide +kernel
theorem dX0_size_11 : decode cX0_size 11 = .ok (.iload_n 2, 1) := by decide +kernel
theorem dX0_size_12 : decode cX0_size 12 = .ok (.invokevirtual 36, 3) := by decide +kernel
theorem dX0_size_15 : decode cX0_size 15 = .ok (.ifCond .eq 6, 3) := by decide +kernel
theorem dX0_size_18 : decode cX0_size 18 = .ok (.iinc 1 1, 3) := by decide +kernel
theorem dX0_size_21 : decode cX0_size 21 = .ok (.iinc 2 1, 3) := by decide +kernel
theorem dX0_size_24 : decode cX0_size 24 = .ok (.goto (-20), 3) := by decide +kernel
theorem dX0_size_27 : decode cX0_size 27 = .ok (.iload_n 1, 1) := by decide +kernel
theorem dX0_size_28 : decode cX0_size 28 = .ok (.ireturn, 1) := by decide +kernel
theorem dX0_upCount_0 : decode cX0_upCount 0 = .ok (.iconst 0, 1) := by decide +kernel
theorem dX0_upCount_1 : decode cX0_upCount 1 = .ok (.istore_n 1, 1) := by decide +kernel
theorem dX0_upCount_2 : decode cX0_upCount 2 = .ok (.iconst 0, 1) := by decide +kernel
theorem dX0_upCount_3 : decode cX0_upCount 3 = .ok (.istore_n 2, 1) := by decide +kernel
theorem dX0_upCount_4 : decode cX0_upCount 4 = .ok (.iload_n 2, 1) := by decide +kernel
theorem dX0_upCount_5 : decode cX0_upCount 5 = .ok (.bipush 10, 2) := by decide +kernel
theorem dX0_upCount_7 : decode cX0_upCount 7 = .ok (.if_icmp .ge 20, 3) := by decide +kernel
theorem dX0_upCount_10 : decode cX0_upCount 10 = .ok (.aload_n 0, 1) := by decide +kernel
theorem dX0_upCount_11 : decode cX0_upCount 11 = .ok (.iload_n 2, 1) := by decide +kernel
theorem dX0_upCount_12 : decode cX0_upCount 12 = .ok (.invokevirtual 39, 3) := by decide +kernel
theorem dX0_upCount_15 : decode cX0_upCount 15 = .ok (.ifCond .eq 6, 3) := by decide +kernel
theorem dX0_upCount_18 : decode cX0_upCount 18 = .ok (.iinc 1 1, 3) := by decide +kernel
theorem dX0_upCount_21 : decode cX0_upCount 21 = .ok (.iinc 2 1, 3) := by decide +kernel
theorem dX0_upCount_24 : decode cX0_upCount 24 = .ok (.goto (-20), 3) := by decide +kernel
theorem dX0_upCount_27 : decode cX0_upCount 27 = .ok (.iload_n 1, 1) := by decide +kernel
theorem dX0_upCount_28 : decode cX0_upCount 28 = .ok (.ireturn, 1) := by decide +kernel
theorem dX0_find_0 : decode cX0_find 0 = .ok (.iconst 0, 1) := by decide +kernel
theorem dX0_find_1 : decode cX0_find 1 = .ok (.istore_n 2, 1) := by decide +kernel
theorem dX0_find_2 : decode cX0_find 2 = .ok (.iload_n 2, 1) := by decide +kernel
theorem dX0_find_3 : decode cX0_find 3 = .ok (.bipush 10, 2) := by decide +kernel
theorem dX0_find_5 : decode cX0_find 5 = .ok (.if_icmp .ge 21, 3) := by decide +kernel
theorem dX0_find_8 : decode cX0_find 8 = .ok (.aload_n 0, 1) := by decide +kernel
theorem dX0_find_9 : decode cX0_find 9 = .ok (.getfield 9, 3) := by decide +kernel
theorem dX0_find_12 : decode cX0_find 12 = .ok (.iload_n 2, 1) := by decide +kernel
theorem dX0_find_13 : decode cX0_find 13 = .ok (.iaload, 1) := by decide +kernel
theorem dX0_find_14 : decode cX0_find 14 = .ok (.iload_n 1, 1) := by decide +kernel
theorem dX0_find_15 : decode cX0_find 15 = .ok (.if_icmp .ne 5, 3) := by decide +kernel
theorem dX0_find_18 : decode cX0_find 18 = .ok (.iload_n 2, 1) := by decide +kernel
theorem dX0_find_19 : decode cX0_find 19 = .ok (.ireturn, 1) := by decide +kernel
theorem dX0_find_20 : decode cX0_find 20 = .ok (.iinc 2 1, 3) := by decide +kernel
theorem dX0_find_23 : decode cX0_find 23 = .ok (.goto (-21), 3) := by decide +kernel
theorem dX0_find_26 : decode cX0_find 26 = .ok (.iconst (-1), 1) := by decide +kernel
theorem dX0_find_27 : decode cX0_find 27 = .ok (.ireturn, 1) := by decide +kernel
theorem dX0_lowestFree_0 : decode cX0_lowestFree 0 = .ok (.aload_n 0, 1) := by decide +kernel
theorem dX0_lowestFree_1 : decode cX0_lowestFree 1 = .ok (.iconst 0, 1) := by decide +kernel
theorem dX0_lowestFree_2 : decode cX0_lowestFree 2 = .ok (.invokevirtual 42, 3) := by decide +kernel
theorem dX0_lowestFree_5 : decode cX0_lowestFree 5 = .ok (.ireturn, 1) := by decide +kernel
theorem dX0_weightSum_0 : decode cX0_weightSum 0 = .ok (.iconst 0, 1) := by decide +kernel
theorem dX0_weightSum_1 : decode cX0_weightSum 1 = .ok (.istore_n 1, 1) := by decide +kernel
theorem dX0_weightSum_2 : decode cX0_weightSum 2 = .ok (.iconst 0, 1) := by decide +kernel
theorem dX0_weightSum_3 : decode cX0_weightSum 3 = .ok (.istore_n 2, 1) := by decide +kernel
theorem dX0_weightSum_4 : decode cX0_weightSum 4 = .ok (.iload_n 2, 1) := by decide +kernel
theorem dX0_weightSum_5 : decode cX0_weightSum 5 = .ok (.bipush 10, 2) := by decide +kernel
theorem dX0_weightSum_7 : decode cX0_weightSum 7 = .ok (.if_icmp .ge 26, 3) := by decide +kernel
theorem dX0_weightSum_10 : decode cX0_weightSum 10 = .ok (.aload_n 0, 1) := by decide +kernel
theorem dX0_weightSum_11 : decode cX0_weightSum 11 = .ok (.iload_n 2, 1) := by decide +kernel
theorem dX0_weightSum_12 : decode cX0_weightSum 12 = .ok (.invokevirtual 39, 3) := by decide +kernel
theorem dX0_weightSum_15 : decode cX0_weightSum 15 = .ok (.ifCond .eq 12, 3) := by decide +kernel
theorem dX0_weightSum_18 : decode cX0_weightSum 18 = .ok (.iload_n 1, 1) := by decide +kernel
theorem dX0_weightSum_19 : decode cX0_weightSum 19 = .ok (.aload_n 0, 1) := by decide +kernel
theorem dX0_weightSum_20 : decode cX0_weightSum 20 = .ok (.getfield 15, 3) := by decide +kernel
theorem dX0_weightSum_23 : decode cX0_weightSum 23 = .ok (.iload_n 2, 1) := by decide +kernel
theorem dX0_weightSum_24 : decode cX0_weightSum 24 = .ok (.iaload, 1) := by decide +kernel
theorem dX0_weightSum_25 : decode cX0_weightSum 25 = .ok (.iadd, 1) := by decide +kernel
theorem dX0_weightSum_26 : decode cX0_weightSum 26 = .ok (.istore_n 1, 1) := by decide +kernel
theorem dX0_weightSum_27 : decode cX0_weightSum 27 = .ok (.iinc 2 1, 3) := by decide +kernel
theorem dX0_weightSum_30 : decode cX0_weightSum 30 = .ok (.goto (-26), 3) := by decide +kernel
theorem dX0_weightSum_33 : decode cX0_weightSum 33 = .ok (.iload_n 1, 1) := by decide +kernel
theorem dX0_weightSum_34 : decode cX0_weightSum 34 = .ok (.ireturn, 1) := by decide +kernel
theorem dX0_greatestWeightWithout_0 : decode cX0_greatestWeightWithout 0 = .ok (.iconst 0, 1) := by decide +kernel
theorem dX0_greatestWeightWithout_1 : decode cX0_greatestWeightWithout 1 = .ok (.istore_n 2, 1) := by decide +kernel
theorem dX0_greatestWeightWithout_2 : decode cX0_greatestWeightWithout 2 = .ok (.iconst 0, 1) := by decide +kernel
theorem dX0_greatestWeightWithout_3 : decode cX0_greatestWeightWithout 3 = .ok (.istore_n 3, 1) := by decide +kernel
theorem dX0_greatestWeightWithout_4 : decode cX0_greatestWeightWithout 4 = .ok (.iload_n 3, 1) := by decide +kernel
theorem dX0_greatestWeightWithout_5 : decode cX0_greatestWeightWithout 5 = .ok (.bipush 10, 2) := by decide +kernel
theorem dX0_greatestWeightWithout_7 : decode cX0_greatestWeightWithout 7 = .ok (.if_icmp .ge 33, 3) := by decide +kernel
theorem dX0_greatestWeightWithout_10 : decode cX0_greatestWeightWithout 10 = .ok (.iload_n 3, 1) := by decide +kernel
theorem dX0_greatestWeightWithout_11 : decode cX0_greatestWeightWithout 11 = .ok (.iload_n 1, 1) := by decide +kernel
theorem dX0_greatestWeightWithout_12 : decode cX0_greatestWeightWithout 12 = .ok (.if_icmp .eq 22, 3) := by decide +kernel
theorem dX0_greatestWeightWithout_15 : decode cX0_greatestWeightWithout 15 = .ok (.aload_n 0, 1) := by decide +kernel
theorem dX0_greatestWeightWithout_16 : decode cX0_greatestWeightWithout 16 = .ok (.iload_n 3, 1) := by decide +kernel
theorem dX0_greatestWeightWithout_17 : decode cX0_greatestWeightWithout 17 = .ok (.invokevirtual 39, 3) := by decide +kernel
theorem dX0_greatestWeightWithout_20 : decode cX0_greatestWeightWithout 20 = .ok (.ifCond .eq 14, 3) := by decide +kernel
theorem dX0_greatestWeightWithout_23 : decode cX0_greatestWeightWithout 23 = .ok (.iload_n 2, 1) := by decide +kernel
theorem dX0_greatestWeightWithout_24 : decode cX0_greatestWeightWithout 24 = .ok (.aload_n 0, 1) := by decide +kernel
theorem dX0_greatestWeightWithout_25 : decode cX0_greatestWeightWithout 25 = .ok (.getfield 15, 3) := by decide +kernel
theorem dX0_greatestWeightWithout_28 : decode cX0_greatestWeightWithout 28 = .ok (.iload_n 3, 1) := by decide +kernel
theorem dX0_greatestWeightWithout_29 : decode cX0_greatestWeightWithout 29 = .ok (.iaload, 1) := by decide +kernel
theorem dX0_greatestWeightWithout_30 : decode cX0_greatestWeightWithout 30 = .ok (.invokestatic 46, 3) := by decide +kernel
theorem dX0_greatestWeightWithout_33 : decode cX0_greatestWeightWithout 33 = .ok (.istore_n 2, 1) := by decide +kernel
theorem dX0_greatestWeightWithout_34 : decode cX0_greatestWeightWithout 34 = .ok (.iinc 3 1, 3) := by decide +kernel
theorem dX0_greatestWeightWithout_37 : decode cX0_greatestWeightWithout 37 = .ok (.goto (-33), 3) := by decide +kernel
theorem dX0_greatestWeightWithout_40 : decode cX0_greatestWeightWithout 40 = .ok (.iload_n 2, 1) := by decide +kernel
theorem dX0_greatestWeightWithout_41 : decode cX0_greatestWeightWithout 41 = .ok (.ireturn, 1) := by decide +kernel
theorem dX0_ranked_0 : decode cX0_ranked 0 = .ok (.iconst 0, 1) := by decide +kernel
theorem dX0_ranked_1 : decode cX0_ranked 1 = .ok (.istore_n 2, 1) := by decide +kernel
theorem dX0_ranked_2 : decode cX0_ranked 2 = .ok (.iload_n 2, 1) := by decide +kernel
theorem dX0_ranked_3 : decode cX0_ranked 3 = .ok (.bipush 10, 2) := by decide +kernel
theorem dX0_ranked_5 : decode cX0_ranked 5 = .ok (.if_icmp .ge 28, 3) := by decide +kernel
theorem dX0_ranked_8 : decode cX0_ranked 8 = .ok (.aload_n 0, 1) := by decide +kernel
theorem dX0_ranked_9 : decode cX0_ranked 9 = .ok (.iload_n 2, 1) := by decide +kernel
theorem dX0_ranked_10 : decode cX0_ranked 10 = .ok (.invokevirtual 39, 3) := by decide +kernel
theorem dX0_ranked_13 : decode cX0_ranked 13 = .ok (.ifCond .eq 14, 3) := by decide +kernel
theorem dX0_ranked_16 : decode cX0_ranked 16 = .ok (.aload_n 0, 1) := by decide +kernel
theorem dX0_ranked_17 : decode cX0_ranked 17 = .ok (.iload_n 2, 1) := by decide +kernel
theorem dX0_ranked_18 : decode cX0_ranked 18 = .ok (.invokevirtual 52, 3) := by decide +kernel
theorem dX0_ranked_21 : decode cX0_ranked 21 = .ok (.iload_n 1, 1) := by decide +kernel
theorem dX0_ranked_22 : decode cX0_ranked 22 = .ok (.if_icmp .ne 5, 3) := by decide +kernel
theorem dX0_ranked_25 : decode cX0_ranked 25 = .ok (.iload_n 2, 1) := by decide +kernel
theorem dX0_ranked_26 : decode cX0_ranked 26 = .ok (.ireturn, 1) := by decide +kernel
theorem dX0_ranked_27 : decode cX0_ranked 27 = .ok (.iinc 2 1, 3) := by decide +kernel
theorem dX0_ranked_30 : decode cX0_ranked 30 = .ok (.goto (-28), 3) := by decide +kernel
theorem dX0_ranked_33 : decode cX0_ranked 33 = .ok (.iconst (-1), 1) := by decide +kernel
theorem dX0_ranked_34 : decode cX0_ranked 34 = .ok (.ireturn, 1) := by decide +kernel
theorem dX0_countBefore_0 : decode cX0_countBefore 0 = .ok (.iconst 0, 1) := by decide +kernel
theorem dX0_countBefore_1 : decode cX0_countBefore 1 = .ok (.istore_n 2, 1) := by decide +kernel
theorem dX0_countBefore_2 : decode cX0_countBefore 2 = .ok (.iconst 0, 1) := by decide +kernel
theorem dX0_countBefore_3 : decode cX0_countBefore 3 = .ok (.istore_n 3, 1) := by decide +kernel
theorem dX0_countBefore_4 : decode cX0_countBefore 4 = .ok (.iload_n 3, 1) := by decide +kernel
theorem dX0_countBefore_5 : decode cX0_countBefore 5 = .ok (.bipush 10, 2) := by decide +kernel
theorem dX0_countBefore_7 : decode cX0_countBefore 7 = .ok (.if_icmp .ge 29, 3) := by decide +kernel
theorem dX0_countBefore_10 : decode cX0_countBefore 10 = .ok (.aload_n 0, 1) := by decide +kernel
theorem dX0_countBefore_11 : decode cX0_countBefore 11 = .ok (.iload_n 3, 1) := by decide +kernel
theorem dX0_countBefore_12 : decode cX0_countBefore 12 = .ok (.invokevirtual 39, 3) := by decide +kernel
theorem dX0_countBefore_15 : decode cX0_countBefore 15 = .ok (.ifCond .eq 15, 3) := by decide +kernel
theorem dX0_countBefore_18 : decode cX0_countBefore 18 = .ok (.aload_n 0, 1) := by decide +kernel
theorem dX0_countBefore_19 : decode cX0_countBefore 19 = .ok (.iload_n 3, 1) := by decide +kernel
theorem dX0_countBefore_20 : decode cX0_countBefore 20 = .ok (.iload_n 1, 1) := by decide +kernel
theorem dX0_countBefore_21 : decode cX0_countBefore 21 = .ok (.invokevirtual 55, 3) := by decide +kernel
theorem dX0_countBefore_24 : decode cX0_countBefore 24 = .ok (.ifCond .eq 6, 3) := by decide +kernel
theorem dX0_countBefore_27 : decode cX0_countBefore 27 = .ok (.iinc 2 1, 3) := by decide +kernel
theorem dX0_countBefore_30 : decode cX0_countBefore 30 = .ok (.iinc 3 1, 3) := by decide +kernel
theorem dX0_countBefore_33 : decode cX0_countBefore 33 = .ok (.goto (-29), 3) := by decide +kernel
theorem dX0_countBefore_36 : decode cX0_countBefore 36 = .ok (.iload_n 2, 1) := by decide +kernel
theorem dX0_countBefore_37 : decode cX0_countBefore 37 = .ok (.ireturn, 1) := by decide +kernel
theorem dX0_ranksBefore_0 : decode cX0_ranksBefore 0 = .ok (.aload_n 0, 1) := by decide +kernel
theorem dX0_ranksBefore_1 : decode cX0_ranksBefore 1 = .ok (.iload_n 1, 1) := by decide +kernel
theorem dX0_ranksBefore_2 : decode cX0_ranksBefore 2 = .ok (.invokevirtual 59, 3) := by decide +kernel
theorem dX0_ranksBefore_5 : decode cX0_ranksBefore 5 = .ok (.aload_n 0, 1) := by decide +kernel
theorem dX0_ranksBefore_6 : decode cX0_ranksBefore 6 = .ok (.iload_n 2, 1) := by decide +kernel
theorem dX0_ranksBefore_7 : decode cX0_ranksBefore 7 = .ok (.invokevirtual 63, 3) := by decide +kernel
theorem dX0_ranksBefore_10 : decode cX0_ranksBefore 10 = .ok (.i2l, 1) := by decide +kernel
theorem dX0_ranksBefore_11 : decode cX0_ranksBefore 11 = .ok (.lmul, 1) := by decide +kernel
theorem dX0_ranksBefore_12 : decode cX0_ranksBefore 12 = .ok (.lstore_n 3, 1) := by decide +kernel
theorem dX0_ranksBefore_13 : decode cX0_ranksBefore 13 = .ok (.aload_n 0, 1) := by decide +kernel
theorem dX0_ranksBefore_14 : decode cX0_ranksBefore 14 = .ok (.iload_n 2, 1) := by decide +kernel
theorem dX0_ranksBefore_15 : decode cX0_ranksBefore 15 = .ok (.invokevirtual 59, 3) := by decide +kernel
theorem dX0_ranksBefore_18 : decode cX0_ranksBefore 18 = .ok (.aload_n 0, 1) := by decide +kernel
theorem dX0_ranksBefore_19 : decode cX0_ranksBefore 19 = .ok (.iload_n 1, 1) := by decide +kernel
theorem dX0_ranksBefore_20 : decode cX0_ranksBefore 20 = .ok (.invokevirtual 63, 3) := by decide +kernel
theorem dX0_ranksBefore_23 : decode cX0_ranksBefore 23 = .ok (.i2l, 1) := by decide +kernel
theorem dX0_ranksBefore_24 : decode cX0_ranksBefore 24 = .ok (.lmul, 1) := by decide +kernel
theorem dX0_ranksBefore_25 : decode cX0_ranksBefore 25 = .ok (.lstore 5, 2) := by decide +kernel
theorem dX0_ranksBefore_27 : decode cX0_ranksBefore 27 = .ok (.lload_n 3, 1) := by decide +kernel
theorem dX0_ranksBefore_28 : decode cX0_ranksBefore 28 = .ok (.lload 5, 2) := by decide +kernel
theorem dX0_ranksBefore_30 : decode cX0_ranksBefore 30 = .ok (.lcmp, 1) := by decide +kernel
theorem dX0_ranksBefore_31 : decode cX0_ranksBefore 31 = .ok (.ifCond .gt 15, 3) := by decide +kernel
theorem dX0_ranksBefore_34 : decode cX0_ranksBefore 34 = .ok (.lload_n 3, 1) := by decide +kernel
theorem dX0_ranksBefore_35 : decode cX0_ranksBefore 35 = .ok (.lload 5, 2) := by decide +kernel
theorem dX0_ranksBefore_37 : decode cX0_ranksBefore 37 = .ok (.lcmp, 1) := by decide +kernel
theorem dX0_ranksBefore_38 : decode cX0_ranksBefore 38 = .ok (.ifCond .ne 12, 3) := by decide +kernel
theorem dX0_ranksBefore_41 : decode cX0_ranksBefore 41 = .ok (.iload_n 1, 1) := by decide +kernel
theorem dX0_ranksBefore_42 : decode cX0_ranksBefore 42 = .ok (.iload_n 2, 1) := by decide +kernel
theorem dX0_ranksBefore_43 : decode cX0_ranksBefore 43 = .ok (.if_icmp .ge 7, 3) := by decide +kernel
theorem dX0_ranksBefore_46 : decode cX0_ranksBefore 46 = .ok (.iconst 1, 1) := by decide +kernel
theorem dX0_ranksBefore_47 : decode cX0_ranksBefore 47 = .ok (.goto 4, 3) := by decide +kernel
theorem dX0_ranksBefore_50 : decode cX0_ranksBefore 50 = .ok (.iconst 0, 1) := by decide +kernel
theorem dX0_ranksBefore_51 : decode cX0_ranksBefore 51 = .ok (.ireturn, 1) := by decide +kernel
theorem k_X0_has_32 : aKS mX0_has mX0_isNumber 32 1 := ⟨cb_X0_isNumber, rfl, ml_X0_32, st_X0_isNumber, ⟨Nat.le_of_ble_eq_true rfl, Nat.le_of_ble_eq_true rfl⟩⟩
theorem k_X0_isUp_36 : aKV mX0_isUp mX0_has 36 1 0 := ⟨cb_X0_has, rfl, ml_X0_36, iv_X0_has, sl_X0_has, ⟨_, _, rfl⟩, ⟨Nat.le_of_ble_eq_true rfl, Nat.le_of_ble_eq_true rfl⟩⟩
theorem k_X0_name_36 : aKV mX0_name mX0_has 36 1 0 := ⟨cb_X0_has, rfl, ml_X0_36, iv_X0_has, sl_X0_has, ⟨_, _, rfl⟩, ⟨Nat.le_of_ble_eq_true rfl, Nat.le_of_ble_eq_true rfl⟩⟩
theorem k_X0_weight_36 : aKV mX0_weight mX0_has 36 1 0 := ⟨cb_X0_has, rfl, ml_X0_36, iv_X0_has, sl_X0_has, ⟨_, _, rfl⟩, ⟨Nat.le_of_ble_eq_true rfl, Nat.le_of_ble_eq_true rfl⟩⟩
theorem k_X0_load_36 : aKV mX0_load mX0_has 36 1 0 := ⟨cb_X0_has, rfl, ml_X0_36, iv_X0_has, sl_X0_has, ⟨_, _, rfl⟩, ⟨Nat.le_of_ble_eq_true rfl, Nat.le_of_ble_eq_true rfl⟩⟩
theorem k_X0_ranksBefore_59 : aKV mX0_ranksBefore mX0_load 59 1 0 := ⟨cb_X0_load, rfl, ml_X0_59, iv_X0_load, sl_X0_load, ⟨_, _, rfl⟩, ⟨Nat.le_of_ble_eq_true rfl, Nat.le_of_ble_eq_true rfl⟩⟩
theorem k_X0_ranksBefore_63 : aKV mX0_ranksBefore mX0_weight 63 1 0 := ⟨cb_X0_weight, rfl, ml_X0_63, iv_X0_weight, sl_X0_weight, ⟨_, _, rfl⟩, ⟨Nat.le_of_ble_eq_true rfl, Nat.le_of_ble_eq_true rfl⟩⟩
theorem k_X0_countBefore_39 : aKV mX0_countBefore mX0_isUp 39 1 0 := ⟨cb_X0_isUp, rfl, ml_X0_39, iv_X0_isUp, sl_X0_isUp, ⟨_, _, rfl⟩, ⟨Nat.le_of_ble_eq_true rfl, Nat.le_of_ble_eq_true rfl⟩⟩
theorem k_X0_countBefore_55 : aKV mX0_countBefore mX0_ranksBefore 55 2 0 := ⟨cb_X0_ranksBefore, rfl, ml_X0_55, iv_X0_ranksBefore, sl_X0_ranksBefore, ⟨_, _, rfl⟩, ⟨Nat.le_of_ble_eq_true rfl, Nat.le_of_ble_eq_true rfl⟩⟩
theorem k_X0_ranked_39 : aKV mX0_ranked mX0_isUp 39 1 0 := ⟨cb_X0_isUp, rfl, ml_X0_39, iv_X0_isUp, sl_X0_isUp, ⟨_, _, rfl⟩, ⟨Nat.le_of_ble_eq_true rfl, Nat.le_of_ble_eq_true rfl⟩⟩
theorem k_X0_ranked_52 : aKV mX0_ranked mX0_countBefore 52 1 0 := ⟨cb_X0_countBefore, rfl, ml_X0_52, iv_X0_countBefore, sl_X0_countBefore, ⟨_, _, rfl⟩, ⟨Nat.le_of_ble_eq_true rfl, Nat.le_of_ble_eq_true rfl⟩⟩
theorem k_X0_size_36 : aKV mX0_size mX0_has 36 1 0 := ⟨cb_X0_has, rfl, ml_X0_36, iv_X0_has, sl_X0_has, ⟨_, _, rfl⟩, ⟨Nat.le_of_ble_eq_true rfl, Nat.le_of_ble_eq_true rfl⟩⟩
theorem k_X0_upCount_39 : aKV mX0_upCount mX0_isUp 39 1 0 := ⟨cb_X0_isUp, rfl, ml_X0_39, iv_X0_isUp, sl_X0_isUp, ⟨_, _, rfl⟩, ⟨Nat.le_of_ble_eq_true rfl, Nat.le_of_ble_eq_true rfl⟩⟩
theorem k_X0_weightSum_39 : aKV mX0_weightSum mX0_isUp 39 1 0 := ⟨cb_X0_isUp, rfl, ml_X0_39, iv_X0_isUp, sl_X0_isUp, ⟨_, _, rfl⟩, ⟨Nat.le_of_ble_eq_true rfl, Nat.le_of_ble_eq_true rfl⟩⟩
theorem k_X0_greatestWeightWithout_39 : aKV mX0_greatestWeightWithout mX0_isUp 39 1 0 := ⟨cb_X0_isUp, rfl, ml_X0_39, iv_X0_isUp, sl_X0_isUp, ⟨_, _, rfl⟩, ⟨Nat.le_of_ble_eq_true rfl, Nat.le_of_ble_eq_true rfl⟩⟩
theorem k_X0_lowestFree_42 : aKV mX0_lowestFree mX0_find 42 1 0 := ⟨cb_X0_find, rfl, ml_X0_42, iv_X0_find, sl_X0_find, ⟨_, _, rfl⟩, ⟨Nat.le_of_ble_eq_true rfl, Nat.le_of_ble_eq_true rfl⟩⟩
/-! ===== Fleet ===== -/
section FLEET
variable {l : Launch} {X : aX} {nm wt up : Nat → Int32} {ld : Nat → Int64}
theorem c_X0_isNumber (s : Int32) : aRd l X mX0_isNumber [] [.int s] [] (.int (bI (fNm s))) := by
  refine aMt.of (by decide) rfl (Nat.le_of_ble_eq_true rfl) ?_
  refine a_iload_n dX0_isNumber_0 rfl ?_
  refine a_if_lt 14 dX0_isNumber_1 (by decide) (fun c1 => ?_) (fun c1 => ?_)
  · refine a_iconst 0 dX0_isNumber_14 (by decide) ?_
    refine a_zret rfl rfl dX0_isNumber_15 (by decide) (by decide) ?_
    exact ⟨by simp [fNm, c1, bI], rfl⟩
  · refine a_iload_n dX0_isNumber_4 rfl ?_
    refine a_bipush 10 dX0_isNumber_5 (by decide) ?_
    refine a_icmp_ge 14 dX0_isNumber_7 (by decide) (fun c7 => ?_) (fun c7 => ?_)
    · refine a_iconst 0 dX0_isNumber_14 (by decide) ?_
      refine a_zret rfl rfl dX0_isNumber_15 (by decide) (by decide) ?_
      exact ⟨by simp [fNm, c1, c7, bI], rfl⟩
    · refine a_iconst 1 dX0_isNumber_10 (by decide) ?_
      refine a_goto 15 dX0_isNumber_11 (by decide) ?_
      refine a_zret rfl rfl dX0_isNumber_15 (by decide) (by decide) ?_
      exact ⟨by simp [fNm, c1, c7, bI], rfl⟩
theorem c_X0_has (s : Int32) : aRd l X mX0_has rs5 [.ref 0, .int s] (aFt nm wt up ld) (.int (bI (fHs nm s))) := by
  refine aMt.of (by decide) rfl (Nat.le_of_ble_eq_true rfl) ?_
  refine a_iload_n dX0_has_0 rfl ?_
  refine a_SiR [] k_X0_has_32 (c_X0_isNumber s) dX0_has_1 rfl rfl rfl rfl rfl (Nat.le_of_ble_eq_true rfl) ⟨Nat.le_of_ble_eq_true rfl, Nat.le_of_ble_eq_true rfl⟩ ⟨rfl, rfl⟩ ?_
  refine a_if_eq 20 dX0_has_4 (by decide) (fun c4 => ?_) (fun c4 => ?_)
  · refine a_iconst 0 dX0_has_20 (by decide) ?_
    refine a_zret rfl rfl dX0_has_21 (by decide) (by decide) ?_
    exact ⟨by simp [fHs, bI_0 c4, bI], rfl⟩
  · refine a_aload_n dX0_has_7 rfl ?_
    refine a_get fl_X0_9 dX0_has_8 rfl rfl ?_
    refine a_iload_n dX0_has_11 rfl ?_
    refine a_iald dX0_has_12 rfl (fNm_in (bI_1 c4)) ?_
    refine a_if_eq 20 dX0_has_13 (by decide) (fun c13 => ?_) (fun c13 => ?_)
    · refine a_iconst 0 dX0_has_20 (by decide) ?_
      refine a_zret rfl rfl dX0_has_21 (by decide) (by decide) ?_
      exact ⟨by simp [fHs, bI_1 c4, c13, bI], rfl⟩
    · refine a_iconst 1 dX0_has_16 (by decide) ?_
      refine a_goto 21 dX0_has_17 (by decide) ?_
      refine a_zret rfl rfl dX0_has_21 (by decide) (by decide) ?_
      exact ⟨by simp [fHs, bI_1 c4, c13, bI], rfl⟩
theorem c_X0_isUp (s : Int32) : aRd l X mX0_isUp rs5 [.ref 0, .int s] (aFt nm wt up ld) (.int (bI (fUp nm up s))) := by
  refine aMt.of (by decide) rfl (Nat.le_of_ble_eq_true rfl) ?_
  refine a_aload_n dX0_isUp_0 rfl ?_
  refine a_iload_n dX0_isUp_1 rfl ?_
  refine a_ViR [0, 1, 2, 3, 4] k_X0_isUp_36 (c_X0_has (nm := nm) (wt := wt) (up := up) (ld := ld) s) dX0_isUp_2 rfl rfl rfl rfl rfl rfl (Nat.le_of_ble_eq_true rfl) ⟨Nat.le_of_ble_eq_true rfl, Nat.le_of_ble_eq_true rfl⟩ ⟨rfl, rfl⟩ ?_
  refine a_if_eq 21 dX0_isUp_5 (by decide) (fun c5 => ?_) (fun c5 => ?_)
  · refine a_iconst 0 dX0_isUp_21 (by decide) ?_
    refine a_zret rfl rfl dX0_isUp_22 (by decide) (by decide) ?_
    exact ⟨by simp [fUp, bI_0 c5, bI], rfl⟩
  · refine a_aload_n dX0_isUp_8 rfl ?_
    refine a_get fl_X0_18 dX0_isUp_9 rfl rfl ?_
    refine a_iload_n dX0_isUp_12 rfl ?_
    refine a_zald dX0_isUp_13 rfl (fHs_in (bI_1 c5)) ?_
    refine a_if_eq 21 dX0_isUp_14 (by decide) (fun c14 => ?_) (fun c14 => ?_)
    · refine a_iconst 0 dX0_isUp_21 (by decide) ?_
      refine a_zret rfl rfl dX0_isUp_22 (by decide) (by decide) ?_
      exact ⟨by simp [fUp, bI_1 c5, c14, bI], rfl⟩
    · refine a_iconst 1 dX0_isUp_17 (by decide) ?_
      refine a_goto 22 dX0_isUp_18 (by decide) ?_
      refine a_zret rfl rfl dX0_isUp_22 (by decide) (by decide) ?_
      exact ⟨by simp [fUp, bI_1 c5, c14, bI], rfl⟩
theorem c_X0_name (s : Int32) : aRd l X mX0_name rs5 [.ref 0, .int s] (aFt nm wt up ld) (.int (if fHs nm s then nm s.toNatClampNeg else 0)) := by
  refine aMt.of (by decide) rfl (Nat.le_of_ble_eq_true rfl) ?_
  refine a_aload_n dX0_name_0 rfl ?_
  refine a_iload_n dX0_name_1 rfl ?_
  refine a_ViR [0, 1, 2, 3, 4] k_X0_name_36 (c_X0_has (nm := nm) (wt := wt) (up := up) (ld := ld) s) dX0_name_2 rfl rfl rfl rfl rfl rfl (Nat.le_of_ble_eq_true rfl) ⟨Nat.le_of_ble_eq_true rfl, Nat.le_of_ble_eq_true rfl⟩ ⟨rfl, rfl⟩ ?_
  refine a_if_eq 17 dX0_name_5 (by decide) (fun c5 => ?_) (fun c5 => ?_)
  · refine a_iconst 0 dX0_name_17 (by decide) ?_
    refine a_iret rfl dX0_name_18 (by decide) (by decide) ?_
    exact ⟨by simp [bI_0 c5], rfl⟩
  · refine a_aload_n dX0_name_8 rfl ?_
    refine a_get fl_X0_9 dX0_name_9 rfl rfl ?_
    refine a_iload_n dX0_name_12 rfl ?_
    refine a_iald dX0_name_13 rfl (fHs_in (bI_1 c5)) ?_
    refine a_goto 18 dX0_name_14 (by decide) ?_
    refine a_iret rfl dX0_name_18 (by decide) (by decide) ?_
    exact ⟨by simp [bI_1 c5], rfl⟩
theorem c_X0_weight (s : Int32) : aRd l X mX0_weight rs5 [.ref 0, .int s] (aFt nm wt up ld) (.int (if fHs nm s then wt s.toNatClampNeg else 0)) := by
  refine aMt.of (by decide) rfl (Nat.le_of_ble_eq_true rfl) ?_
  refine a_aload_n dX0_weight_0 rfl ?_
  refine a_iload_n dX0_weight_1 rfl ?_
  refine a_ViR [0, 1, 2, 3, 4] k_X0_weight_36 (c_X0_has (nm := nm) (wt := wt) (up := up) (ld := ld) s) dX0_weight_2 rfl rfl rfl rfl rfl rfl (Nat.le_of_ble_eq_true rfl) ⟨Nat.le_of_ble_eq_true rfl, Nat.le_of_ble_eq_true rfl⟩ ⟨rfl, rfl⟩ ?_
  refine a_if_eq 17 dX0_weight_5 (by decide) (fun c5 => ?_) (fun c5 => ?_)
  · refine a_iconst 0 dX0_weight_17 (by decide) ?_
    refine a_iret rfl dX0_weight_18 (by decide) (by decide) ?_
    exact ⟨by simp [bI_0 c5], rfl⟩
  · refine a_aload_n dX0_weight_8 rfl ?_
    refine a_get fl_X0_15 dX0_weight_9 rfl rfl ?_
    refine a_iload_n dX0_weight_12 rfl ?_
    refine a_iald dX0_weight_13 rfl (fHs_in (bI_1 c5)) ?_
    refine a_goto 18 dX0_weight_14 (by decide) ?_
    refine a_iret rfl dX0_weight_18 (by decide) (by decide) ?_
    exact ⟨by simp [bI_1 c5], rfl⟩
theorem c_X0_load (s : Int32) : aRd l X mX0_load rs5 [.ref 0, .int s] (aFt nm wt up ld) (.long (if fHs nm s then ld s.toNatClampNeg else 0)) := by
  refine aMt.of (by decide) rfl (Nat.le_of_ble_eq_true rfl) ?_
  refine a_aload_n dX0_load_0 rfl ?_
  refine a_iload_n dX0_load_1 rfl ?_
  refine a_ViR [0, 1, 2, 3, 4] k_X0_load_36 (c_X0_has (nm := nm) (wt := wt) (up := up) (ld := ld) s) dX0_load_2 rfl rfl rfl rfl rfl rfl (Nat.le_of_ble_eq_true rfl) ⟨Nat.le_of_ble_eq_true rfl, Nat.le_of_ble_eq_true rfl⟩ ⟨rfl, rfl⟩ ?_
  refine a_if_eq 17 dX0_load_5 (by decide) (fun c5 => ?_) (fun c5 => ?_)
  · refine a_lconst 0 dX0_load_17 (by decide) ?_
    refine a_lret rfl dX0_load_18 (by decide) (by decide) ?_
    exact ⟨by simp [bI_0 c5], rfl⟩
  · refine a_aload_n dX0_load_8 rfl ?_
    refine a_get fl_X0_22 dX0_load_9 rfl rfl ?_
    refine a_iload_n dX0_load_12 rfl ?_
    refine a_lald dX0_load_13 rfl (fHs_in (bI_1 c5)) ?_
    refine a_goto 18 dX0_load_14 (by decide) ?_
    refine a_lret rfl dX0_load_18 (by decide) (by decide) ?_
    exact ⟨by simp [bI_1 c5], rfl⟩

/-- what ranks, as the class computes it -/
def fLd (nm : Nat → Int32) (ld : Nat → Int64) (s : Int32) : Int64 := if fHs nm s then ld s.toNatClampNeg else 0
def fWt (nm wt : Nat → Int32) (s : Int32) : Int32 := if fHs nm s then wt s.toNatClampNeg else 0
def fRk (nm wt : Nat → Int32) (ld : Nat → Int64) (a b : Int32) : Bool :=
  decide (0 < lg_cmp (fLd nm ld a * (fWt nm wt b).toInt64) (fLd nm ld b * (fWt nm wt a).toInt64)) || (decide (lg_cmp (fLd nm ld a * (fWt nm wt b).toInt64) (fLd nm ld b * (fWt nm wt a).toInt64) = 0) && decide (¬ b ≤ a))
theorem c_X0_ranksBefore (a b : Int32) : aRd l X mX0_ranksBefore rs5 [.ref 0, .int a, .int b] (aFt nm wt up ld) (.int (bI (fRk nm wt ld a b))) := by
  refine aMt.of (by decide) rfl (Nat.le_of_ble_eq_true rfl) ?_
  refine a_aload_n dX0_ranksBefore_0 rfl ?_
  refine a_iload_n dX0_ranksBefore_1 rfl ?_
  refine a_VlR [0, 1, 2, 3, 4] k_X0_ranksBefore_59 (c_X0_load (nm := nm) (wt := wt) (up := up) (ld := ld) a) dX0_ranksBefore_2 rfl rfl rfl rfl rfl rfl (Nat.le_of_ble_eq_true rfl) ⟨Nat.le_of_ble_eq_true rfl, Nat.le_of_ble_eq_true rfl⟩ ⟨rfl, rfl⟩ ?_
  refine a_aload_n dX0_ranksBefore_5 rfl ?_
  refine a_iload_n dX0_ranksBefore_6 rfl ?_
  refine a_ViR [0, 1, 2, 3, 4] k_X0_ranksBefore_63 (c_X0_weight (nm := nm) (wt := wt) (up := up) (ld := ld) b) dX0_ranksBefore_7 rfl rfl rfl rfl rfl rfl (Nat.le_of_ble_eq_true rfl) ⟨Nat.le_of_ble_eq_true rfl, Nat.le_of_ble_eq_true rfl⟩ ⟨rfl, rfl⟩ ?_
  refine a_i2l dX0_ranksBefore_10 ?_
  refine a_lmul dX0_ranksBefore_11 ?_
  refine a_lstore_n dX0_ranksBefore_12 (by decide) rfl ?_
  refine a_aload_n dX0_ranksBefore_13 rfl ?_
  refine a_iload_n dX0_ranksBefore_14 rfl ?_
  refine a_VlR [0, 1, 2, 3, 4] k_X0_ranksBefore_59 (c_X0_load (nm := nm) (wt := wt) (up := up) (ld := ld) b) dX0_ranksBefore_15 rfl rfl rfl rfl rfl rfl (Nat.le_of_ble_eq_true rfl) ⟨Nat.le_of_ble_eq_true rfl, Nat.le_of_ble_eq_true rfl⟩ ⟨rfl, rfl⟩ ?_
  refine a_aload_n dX0_ranksBefore_18 rfl ?_
  refine a_iload_n dX0_ranksBefore_19 rfl ?_
  refine a_ViR [0, 1, 2, 3, 4] k_X0_ranksBefore_63 (c_X0_weight (nm := nm) (wt := wt) (up := up) (ld := ld) a) dX0_ranksBefore_20 rfl rfl rfl rfl rfl rfl (Nat.le_of_ble_eq_true rfl) ⟨Nat.le_of_ble_eq_true rfl, Nat.le_of_ble_eq_true rfl⟩ ⟨rfl, rfl⟩ ?_
  refine a_i2l dX0_ranksBefore_23 ?_
  refine a_lmul dX0_ranksBefore_24 ?_
  refine a_lstore dX0_ranksBefore_25 (by decide) rfl ?_
  refine a_lload_n dX0_ranksBefore_27 rfl ?_
  refine a_lload dX0_ranksBefore_28 rfl ?_
  refine a_lcmp dX0_ranksBefore_30 ?_
  refine a_if_gt 46 dX0_ranksBefore_31 (by decide) (fun c31 => ?_) (fun c31 => ?_)
  · refine a_iconst 1 dX0_ranksBefore_46 (by decide) ?_
    refine a_goto 51 dX0_ranksBefore_47 (by decide) ?_
    refine a_zret rfl rfl dX0_ranksBefore_51 (by decide) (by decide) ?_
    exact ⟨by simp [fRk, fLd, fWt, c31, bI], rfl⟩
  · refine a_lload_n dX0_ranksBefore_34 rfl ?_
    refine a_lload dX0_ranksBefore_35 rfl ?_
    refine a_lcmp dX0_ranksBefore_37 ?_
    refine a_if_ne 50 dX0_ranksBefore_38 (by decide) (fun c38 => ?_) (fun c38 => ?_)
    · refine a_iconst 0 dX0_ranksBefore_50 (by decide) ?_
      refine a_zret rfl rfl dX0_ranksBefore_51 (by decide) (by decide) ?_
      exact ⟨by simp [fRk, fLd, fWt, c31, c38, bI], rfl⟩
    · refine a_iload_n dX0_ranksBefore_41 rfl ?_
      refine a_iload_n dX0_ranksBefore_42 rfl ?_
      refine a_icmp_ge 50 dX0_ranksBefore_43 (by decide) (fun c43 => ?_) (fun c43 => ?_)
      · refine a_iconst 0 dX0_ranksBefore_50 (by decide) ?_
        refine a_zret rfl rfl dX0_ranksBefore_51 (by decide) (by decide) ?_
        exact ⟨by simp [fRk, fLd, fWt, c31, c43, bI], rfl⟩
      · refine a_iconst 1 dX0_ranksBefore_46 (by decide) ?_
        refine a_goto 51 dX0_ranksBefore_47 (by decide) ?_
        refine a_zret rfl rfl dX0_ranksBefore_51 (by decide) (by decide) ?_
        exact ⟨by simp [fRk, fLd, fWt, c31, c38, c43, bI], rfl⟩
def fCb (nm wt up : Nat → Int32) (ld : Nat → Int64) (s : Int32) : Int32 := aLp (fun j c => if fUp nm up (nI j) && fRk nm wt ld (nI j) s then c + 1 else c) 10 0 0
theorem c_X0_countBefore (s : Int32) : aRd l X mX0_countBefore rs5 [.ref 0, .int s] (aFt nm wt up ld) (.int (fCb nm wt up ld s)) := by
  refine aMt.of (by decide) rfl (Nat.le_of_ble_eq_true rfl) ?_
  generalize hr : fCb nm wt up ld s = r
  refine a_iconst 0 dX0_countBefore_0 (by decide) ?_
  refine a_istore_n dX0_countBefore_1 (by decide) rfl ?_
  refine a_iconst 0 dX0_countBefore_2 (by decide) ?_
  refine a_istore_n dX0_countBefore_3 (by decide) rfl ?_
  have lp : ∀ (k j : Nat) (a : Int32), j + k = 10 → aLp (fun j c => if fUp nm up (nI j) && fRk nm wt ld (nI j) s then c + 1 else c) k j a = r → aJ l X mX0_countBefore (aEd X mX0_countBefore rs5 (fun o h' => o = .inl (some (.int r)) ∧ h' = aFt nm wt up ld)) 0 0 4 [.ref 0, .int s, .int a, .int (nI j)] [] (aFt nm wt up ld) := by
    intro k
    induction k with
    | zero =>
      intro j a hj hr
      obtain rfl : j = 10 := by omega
      refine a_iload_n dX0_countBefore_4 rfl ?_
      refine a_bipush 10 dX0_countBefore_5 (by decide) ?_
      refine a_icmp_ge 36 dX0_countBefore_7 (by decide) (fun _ => ?_) (fun z => absurd ge10_t z)
      refine a_iload_n dX0_countBefore_36 rfl ?_
      refine a_iret rfl dX0_countBefore_37 (by decide) (by decide) ?_
      exact ⟨by rw [← hr]; rfl, rfl⟩
    | succ k ih =>
      intro j a hj hr
      refine a_iload_n dX0_countBefore_4 rfl ?_
      refine a_bipush 10 dX0_countBefore_5 (by decide) ?_
      refine a_icmp_ge 36 dX0_countBefore_7 (by decide) (fun z => absurd z (ge10_f (by omega))) (fun _ => ?_)
      refine a_aload_n dX0_countBefore_10 rfl ?_
      refine a_iload_n dX0_countBefore_11 rfl ?_
      refine a_ViR [0, 1, 2, 3, 4] k_X0_countBefore_39 (c_X0_isUp (nm := nm) (wt := wt) (up := up) (ld := ld) (nI j)) dX0_countBefore_12 rfl rfl rfl rfl rfl rfl (Nat.le_of_ble_eq_true rfl) ⟨Nat.le_of_ble_eq_true rfl, Nat.le_of_ble_eq_true rfl⟩ ⟨rfl, rfl⟩ ?_
      refine a_if_eq 30 dX0_countBefore_15 (by decide) (fun c15 => ?_) (fun c15 => ?_)
      · refine a_iinc (nI (j + 1)) dX0_countBefore_30 rfl (nI_1 _) (by decide) rfl ?_
        refine a_goto 4 dX0_countBefore_33 (by decide) ?_
        exact ih (j + 1) a (by omega) (by rw [← hr]; simp [aLp, bI_0 c15])
      · refine a_aload_n dX0_countBefore_18 rfl ?_
        refine a_iload_n dX0_countBefore_19 rfl ?_
        refine a_iload_n dX0_countBefore_20 rfl ?_
        refine a_ViR [0, 1, 2, 3, 4] k_X0_countBefore_55 (c_X0_ranksBefore (nm := nm) (wt := wt) (up := up) (ld := ld) (nI j) s) dX0_countBefore_21 rfl rfl rfl rfl rfl rfl (Nat.le_of_ble_eq_true rfl) ⟨Nat.le_of_ble_eq_true rfl, Nat.le_of_ble_eq_true rfl⟩ ⟨rfl, rfl⟩ ?_
        refine a_if_eq 30 dX0_countBefore_24 (by decide) (fun c24 => ?_) (fun c24 => ?_)
        · refine a_iinc (nI (j + 1)) dX0_countBefore_30 rfl (nI_1 _) (by decide) rfl ?_
          refine a_goto 4 dX0_countBefore_33 (by decide) ?_
          exact ih (j + 1) a (by omega) (by rw [← hr]; simp [aLp, bI_0 c24])
        · refine a_iinc (a + 1) dX0_countBefore_27 rfl rfl (by decide) rfl ?_
          refine a_iinc (nI (j + 1)) dX0_countBefore_30 rfl (nI_1 _) (by decide) rfl ?_
          refine a_goto 4 dX0_countBefore_33 (by decide) ?_
          exact ih (j + 1) (a + 1) (by omega) (by rw [← hr]; simp [aLp, bI_1 c15, bI_1 c24])
  exact lp 10 0 0 rfl hr
def fRd (nm wt up : Nat → Int32) (ld : Nat → Int64) (p : Int32) : Int32 := aFd (fun j => fUp nm up (nI j) && decide (fCb nm wt up ld (nI j) = p)) 10 0
theorem c_X0_ranked (p : Int32) : aRd l X mX0_ranked rs5 [.ref 0, .int p] (aFt nm wt up ld) (.int (fRd nm wt up ld p)) := by
  refine aMt.of (by decide) rfl (Nat.le_of_ble_eq_true rfl) ?_
  generalize hr : fRd nm wt up ld p = r
  refine a_iconst 0 dX0_ranked_0 (by decide) ?_
  refine a_istore_n dX0_ranked_1 (by decide) rfl ?_
  have lp : ∀ (k j : Nat), j + k = 10 → aFd (fun j => fUp nm up (nI j) && decide (fCb nm wt up ld (nI j) = p)) k j = r → aJ l X mX0_ranked (aEd X mX0_ranked rs5 (fun o h' => o = .inl (some (.int r)) ∧ h' = aFt nm wt up ld)) 0 0 2 [.ref 0, .int p, .int (nI j)] [] (aFt nm wt up ld) := by
    intro k
    induction k with
    | zero =>
      intro j hj hr
      obtain rfl : j = 10 := by omega
      refine a_iload_n dX0_ranked_2 rfl ?_
      refine a_bipush 10 dX0_ranked_3 (by decide) ?_
      refine a_icmp_ge 33 dX0_ranked_5 (by decide) (fun _ => ?_) (fun z => absurd ge10_t z)
      refine a_iconst (-1) dX0_ranked_33 (by decide) ?_
      refine a_iret rfl dX0_ranked_34 (by decide) (by decide) ?_
      exact ⟨by rw [← hr]; rfl, rfl⟩
    | succ k ih =>
      intro j hj hr
      refine a_iload_n dX0_ranked_2 rfl ?_
      refine a_bipush 10 dX0_ranked_3 (by decide) ?_
      refine a_icmp_ge 33 dX0_ranked_5 (by decide) (fun z => absurd z (ge10_f (by omega))) (fun _ => ?_)
      refine a_aload_n dX0_ranked_8 rfl ?_
      refine a_iload_n dX0_ranked_9 rfl ?_
      refine a_ViR [0, 1, 2, 3, 4] k_X0_ranked_39 (c_X0_isUp (nm := nm) (wt := wt) (up := up) (ld := ld) (nI j)) dX0_ranked_10 rfl rfl rfl rfl rfl rfl (Nat.le_of_ble_eq_true rfl) ⟨Nat.le_of_ble_eq_true rfl, Nat.le_of_ble_eq_true rfl⟩ ⟨rfl, rfl⟩ ?_
      refine a_if_eq 27 dX0_ranked_13 (by decide) (fun c13 => ?_) (fun c13 => ?_)
      · refine a_iinc (nI (j + 1)) dX0_ranked_27 rfl (nI_1 _) (by decide) rfl ?_
        refine a_goto 2 dX0_ranked_30 (by decide) ?_
        exact ih (j + 1) (by omega) (by rw [← hr]; simp [aFd, bI_0 c13])
      · refine a_aload_n dX0_ranked_16 rfl ?_
        refine a_iload_n dX0_ranked_17 rfl ?_
        refine a_ViR [0, 1, 2, 3, 4] k_X0_ranked_52 (c_X0_countBefore (nm := nm) (wt := wt) (up := up) (ld := ld) (nI j)) dX0_ranked_18 rfl rfl rfl rfl rfl rfl (Nat.le_of_ble_eq_true rfl) ⟨Nat.le_of_ble_eq_true rfl, Nat.le_of_ble_eq_true rfl⟩ ⟨rfl, rfl⟩ ?_
        refine a_iload_n dX0_ranked_21 rfl ?_
        refine a_icmp_ne 27 dX0_ranked_22 (by decide) (fun c22 => ?_) (fun c22 => ?_)
        · refine a_iinc (nI (j + 1)) dX0_ranked_27 rfl (nI_1 _) (by decide) rfl ?_
          refine a_goto 2 dX0_ranked_30 (by decide) ?_
          exact ih (j + 1) (by omega) (by rw [← hr]; simp [aFd, c22])
        · refine a_iload_n dX0_ranked_25 rfl ?_
          refine a_iret rfl dX0_ranked_26 (by decide) (by decide) ?_
          exact ⟨by rw [← hr]; simp [aFd, bI_1 c13, c22], rfl⟩
  exact lp 10 0 rfl hr
def fSz (nm : Nat → Int32) : Int32 := aLp (fun j c => if fHs nm (nI j) then c + 1 else c) 10 0 0
theorem c_X0_size : aRd l X mX0_size rs5 [.ref 0] (aFt nm wt up ld) (.int (fSz nm)) := by
  refine aMt.of (by decide) rfl (Nat.le_of_ble_eq_true rfl) ?_
  generalize hr : fSz nm = r
  refine a_iconst 0 dX0_size_0 (by decide) ?_
  refine a_istore_n dX0_size_1 (by decide) rfl ?_
  refine a_iconst 0 dX0_size_2 (by decide) ?_
  refine a_istore_n dX0_size_3 (by decide) rfl ?_
  have lp : ∀ (k j : Nat) (a : Int32), j + k = 10 → aLp (fun j c => if fHs nm (nI j) then c + 1 else c) k j a = r → aJ l X mX0_size (aEd X mX0_size rs5 (fun o h' => o = .inl (some (.int r)) ∧ h' = aFt nm wt up ld)) 0 0 4 [.ref 0, .int a, .int (nI j)] [] (aFt nm wt up ld) := by
    intro k
    induction k with
    | zero =>
      intro j a hj hr
      obtain rfl : j = 10 := by omega
      refine a_iload_n dX0_size_4 rfl ?_
      refine a_bipush 10 dX0_size_5 (by decide) ?_
      refine a_icmp_ge 27 dX0_size_7 (by decide) (fun _ => ?_) (fun z => absurd ge10_t z)
      refine a_iload_n dX0_size_27 rfl ?_
      refine a_iret rfl dX0_size_28 (by decide) (by decide) ?_
      exact ⟨by rw [← hr]; rfl, rfl⟩
    | succ k ih =>
      intro j a hj hr
      refine a_iload_n dX0_size_4 rfl ?_
      refine a_bipush 10 dX0_size_5 (by decide) ?_
      refine a_icmp_ge 27 dX0_size_7 (by decide) (fun z => absurd z (ge10_f (by omega))) (fun _ => ?_)
      refine a_aload_n dX0_size_10 rfl ?_
      refine a_iload_n dX0_size_11 rfl ?_
      refine a_ViR [0, 1, 2, 3, 4] k_X0_size_36 (c_X0_has (nm := nm) (wt := wt) (up := up) (ld := ld) (nI j)) dX0_size_12 rfl rfl rfl rfl rfl rfl (Nat.le_of_ble_eq_true rfl) ⟨Nat.le_of_ble_eq_true rfl, Nat.le_of_ble_eq_true rfl⟩ ⟨rfl, rfl⟩ ?_
      refine a_if_eq 21 dX0_size_15 (by decide) (fun c15 => ?_) (fun c15 => ?_)
      · refine a_iinc (nI (j + 1)) dX0_size_21 rfl (nI_1 _) (by decide) rfl ?_
        refine a_goto 4 dX0_size_24 (by decide) ?_
        exact ih (j + 1) a (by omega) (by rw [← hr]; simp [aLp, bI_0 c15])
      · refine a_iinc (a + 1) dX0_size_18 rfl rfl (by decide) rfl ?_
        refine a_iinc (nI (j + 1)) dX0_size_21 rfl (nI_1 _) (by decide) rfl ?_
        refine a_goto 4 dX0_size_24 (by decide) ?_
        exact ih (j + 1) (a + 1) (by omega) (by rw [← hr]; simp [aLp, bI_1 c15])
  exact lp 10 0 0 rfl hr
def fUc (nm up : Nat → Int32) : Int32 := aLp (fun j c => if fUp nm up (nI j) then c + 1 else c) 10 0 0
theorem c_X0_upCount : aRd l X mX0_upCount rs5 [.ref 0] (aFt nm wt up ld) (.int (fUc nm up)) := by
  refine aMt.of (by decide) rfl (Nat.le_of_ble_eq_true rfl) ?_
  generalize hr : fUc nm up = r
  refine a_iconst 0 dX0_upCount_0 (by decide) ?_
  refine a_istore_n dX0_upCount_1 (by decide) rfl ?_
  refine a_iconst 0 dX0_upCount_2 (by decide) ?_
  refine a_istore_n dX0_upCount_3 (by decide) rfl ?_
  have lp : ∀ (k j : Nat) (a : Int32), j + k = 10 → aLp (fun j c => if fUp nm up (nI j) then c + 1 else c) k j a = r → aJ l X mX0_upCount (aEd X mX0_upCount rs5 (fun o h' => o = .inl (some (.int r)) ∧ h' = aFt nm wt up ld)) 0 0 4 [.ref 0, .int a, .int (nI j)] [] (aFt nm wt up ld) := by
    intro k
    induction k with
    | zero =>
      intro j a hj hr
      obtain rfl : j = 10 := by omega
      refine a_iload_n dX0_upCount_4 rfl ?_
      refine a_bipush 10 dX0_upCount_5 (by decide) ?_
      refine a_icmp_ge 27 dX0_upCount_7 (by decide) (fun _ => ?_) (fun z => absurd ge10_t z)
      refine a_iload_n dX0_upCount_27 rfl ?_
      refine a_iret rfl dX0_upCount_28 (by decide) (by decide) ?_
      exact ⟨by rw [← hr]; rfl, rfl⟩
    | succ k ih =>
      intro j a hj hr
      refine a_iload_n dX0_upCount_4 rfl ?_
      refine a_bipush 10 dX0_upCount_5 (by decide) ?_
      refine a_icmp_ge 27 dX0_upCount_7 (by decide) (fun z => absurd z (ge10_f (by omega))) (fun _ => ?_)
      refine a_aload_n dX0_upCount_10 rfl ?_
      refine a_iload_n dX0_upCount_11 rfl ?_
      refine a_ViR [0, 1, 2, 3, 4] k_X0_upCount_39 (c_X0_isUp (nm := nm) (wt := wt) (up := up) (ld := ld) (nI j)) dX0_upCount_12 rfl rfl rfl rfl rfl rfl (Nat.le_of_ble_eq_true rfl) ⟨Nat.le_of_ble_eq_true rfl, Nat.le_of_ble_eq_true rfl⟩ ⟨rfl, rfl⟩ ?_
      refine a_if_eq 21 dX0_upCount_15 (by decide) (fun c15 => ?_) (fun c15 => ?_)
      · refine a_iinc (nI (j + 1)) dX0_upCount_21 rfl (nI_1 _) (by decide) rfl ?_
        refine a_goto 4 dX0_upCount_24 (by decide) ?_
        exact ih (j + 1) a (by omega) (by rw [← hr]; simp [aLp, bI_0 c15])
      · refine a_iinc (a + 1) dX0_upCount_18 rfl rfl (by decide) rfl ?_
        refine a_iinc (nI (j + 1)) dX0_upCount_21 rfl (nI_1 _) (by decide) rfl ?_
        refine a_goto 4 dX0_upCount_24 (by decide) ?_
        exact ih (j + 1) (a + 1) (by omega) (by rw [← hr]; simp [aLp, bI_1 c15])
  exact lp 10 0 0 rfl hr
def fWs (nm wt up : Nat → Int32) : Int32 := aLp (fun j c => if fUp nm up (nI j) then c + wt j else c) 10 0 0
theorem c_X0_weightSum : aRd l X mX0_weightSum rs5 [.ref 0] (aFt nm wt up ld) (.int (fWs nm wt up)) := by
  refine aMt.of (by decide) rfl (Nat.le_of_ble_eq_true rfl) ?_
  generalize hr : fWs nm wt up = r
  refine a_iconst 0 dX0_weightSum_0 (by decide) ?_
  refine a_istore_n dX0_weightSum_1 (by decide) rfl ?_
  refine a_iconst 0 dX0_weightSum_2 (by decide) ?_
  refine a_istore_n dX0_weightSum_3 (by decide) rfl ?_
  have lp : ∀ (k j : Nat) (a : Int32), j + k = 10 → aLp (fun j c => if fUp nm up (nI j) then c + wt j else c) k j a = r → aJ l X mX0_weightSum (aEd X mX0_weightSum rs5 (fun o h' => o = .inl (some (.int r)) ∧ h' = aFt nm wt up ld)) 0 0 4 [.ref 0, .int a, .int (nI j)] [] (aFt nm wt up ld) := by
    intro k
    induction k with
    | zero =>
      intro j a hj hr
      obtain rfl : j = 10 := by omega
      refine a_iload_n dX0_weightSum_4 rfl ?_
      refine a_bipush 10 dX0_weightSum_5 (by decide) ?_
      refine a_icmp_ge 33 dX0_weightSum_7 (by decide) (fun _ => ?_) (fun z => absurd ge10_t z)
      refine a_iload_n dX0_weightSum_33 rfl ?_
      refine a_iret rfl dX0_weightSum_34 (by decide) (by decide) ?_
      exact ⟨by rw [← hr]; rfl, rfl⟩
    | succ k ih =>
      intro j a hj hr
      refine a_iload_n dX0_weightSum_4 rfl ?_
      refine a_bipush 10 dX0_weightSum_5 (by decide) ?_
      refine a_icmp_ge 33 dX0_weightSum_7 (by decide) (fun z => absurd z (ge10_f (by omega))) (fun _ => ?_)
      refine a_aload_n dX0_weightSum_10 rfl ?_
      refine a_iload_n dX0_weightSum_11 rfl ?_
      refine a_ViR [0, 1, 2, 3, 4] k_X0_weightSum_39 (c_X0_isUp (nm := nm) (wt := wt) (up := up) (ld := ld) (nI j)) dX0_weightSum_12 rfl rfl rfl rfl rfl rfl (Nat.le_of_ble_eq_true rfl) ⟨Nat.le_of_ble_eq_true rfl, Nat.le_of_ble_eq_true rfl⟩ ⟨rfl, rfl⟩ ?_
      refine a_if_eq 27 dX0_weightSum_15 (by decide) (fun c15 => ?_) (fun c15 => ?_)
      · refine a_iinc (nI (j + 1)) dX0_weightSum_27 rfl (nI_1 _) (by decide) rfl ?_
        refine a_goto 4 dX0_weightSum_30 (by decide) ?_
        exact ih (j + 1) a (by omega) (by rw [← hr]; simp [aLp, bI_0 c15])
      · refine a_iload_n dX0_weightSum_18 rfl ?_
        refine a_aload_n dX0_weightSum_19 rfl ?_
        refine a_get fl_X0_15 dX0_weightSum_20 rfl rfl ?_
        refine a_iload_n dX0_weightSum_23 rfl ?_
        refine a_iald dX0_weightSum_24 rfl (in10 (by omega)) ?_
        refine a_iadd dX0_weightSum_25 ?_
        refine a_istore_n dX0_weightSum_26 (by decide) rfl ?_
        refine a_iinc (nI (j + 1)) dX0_weightSum_27 rfl (nI_1 _) (by decide) rfl ?_
        refine a_goto 4 dX0_weightSum_30 (by decide) ?_
        exact ih (j + 1) _ (by omega) (by rw [← hr, cl10 (by omega)]; simp [aLp, bI_1 c15])
  exact lp 10 0 0 rfl hr
def fGw (nm wt up : Nat → Int32) (lo : Int32) : Int32 := aLp (fun j c => if decide (¬ nI j = lo) && fUp nm up (nI j) then (if c < wt j then wt j else c) else c) 10 0 0
theorem c_X0_greatestWeightWithout (lo : Int32) : aRd l X mX0_greatestWeightWithout rs5 [.ref 0, .int lo] (aFt nm wt up ld) (.int (fGw nm wt up lo)) := by
  refine aMt.of (by decide) rfl (Nat.le_of_ble_eq_true rfl) ?_
  generalize hr : fGw nm wt up lo = r
  refine a_iconst 0 dX0_greatestWeightWithout_0 (by decide) ?_
  refine a_istore_n dX0_greatestWeightWithout_1 (by decide) rfl ?_
  refine a_iconst 0 dX0_greatestWeightWithout_2 (by decide) ?_
  refine a_istore_n dX0_greatestWeightWithout_3 (by decide) rfl ?_
  have lp : ∀ (k j : Nat) (a : Int32), j + k = 10 → aLp (fun j c => if decide (¬ nI j = lo) && fUp nm up (nI j) then (if c < wt j then wt j else c) else c) k j a = r → aJ l X mX0_greatestWeightWithout (aEd X mX0_greatestWeightWithout rs5 (fun o h' => o = .inl (some (.int r)) ∧ h' = aFt nm wt up ld)) 0 0 4 [.ref 0, .int lo, .int a, .int (nI j)] [] (aFt nm wt up ld) := by
    intro k
    induction k with
    | zero =>
      intro j a hj hr
      obtain rfl : j = 10 := by omega
      refine a_iload_n dX0_greatestWeightWithout_4 rfl ?_
      refine a_bipush 10 dX0_greatestWeightWithout_5 (by decide) ?_
      refine a_icmp_ge 40 dX0_greatestWeightWithout_7 (by decide) (fun _ => ?_) (fun z => absurd ge10_t z)
      refine a_iload_n dX0_greatestWeightWithout_40 rfl ?_
      refine a_iret rfl dX0_greatestWeightWithout_41 (by decide) (by decide) ?_
      exact ⟨by rw [← hr]; rfl, rfl⟩
    | succ k ih =>
      intro j a hj hr
      refine a_iload_n dX0_greatestWeightWithout_4 rfl ?_
      refine a_bipush 10 dX0_greatestWeightWithout_5 (by decide) ?_
      refine a_icmp_ge 40 dX0_greatestWeightWithout_7 (by decide) (fun z => absurd z (ge10_f (by omega))) (fun _ => ?_)
      refine a_iload_n dX0_greatestWeightWithout_10 rfl ?_
      refine a_iload_n dX0_greatestWeightWithout_11 rfl ?_
      refine a_icmp_eq 34 dX0_greatestWeightWithout_12 (by decide) (fun c12 => ?_) (fun c12 => ?_)
      · refine a_iinc (nI (j + 1)) dX0_greatestWeightWithout_34 rfl (nI_1 _) (by decide) rfl ?_
        refine a_goto 4 dX0_greatestWeightWithout_37 (by decide) ?_
        exact ih (j + 1) a (by omega) (by rw [← hr]; simp [aLp, c12])
      · refine a_aload_n dX0_greatestWeightWithout_15 rfl ?_
        refine a_iload_n dX0_greatestWeightWithout_16 rfl ?_
        refine a_ViR [0, 1, 2, 3, 4] k_X0_greatestWeightWithout_39 (c_X0_isUp (nm := nm) (wt := wt) (up := up) (ld := ld) (nI j)) dX0_greatestWeightWithout_17 rfl rfl rfl rfl rfl rfl (Nat.le_of_ble_eq_true rfl) ⟨Nat.le_of_ble_eq_true rfl, Nat.le_of_ble_eq_true rfl⟩ ⟨rfl, rfl⟩ ?_
        refine a_if_eq 34 dX0_greatestWeightWithout_20 (by decide) (fun c20 => ?_) (fun c20 => ?_)
        · refine a_iinc (nI (j + 1)) dX0_greatestWeightWithout_34 rfl (nI_1 _) (by decide) rfl ?_
          refine a_goto 4 dX0_greatestWeightWithout_37 (by decide) ?_
          exact ih (j + 1) a (by omega) (by rw [← hr]; simp [aLp, bI_0 c20])
        · refine a_iload_n dX0_greatestWeightWithout_23 rfl ?_
          refine a_aload_n dX0_greatestWeightWithout_24 rfl ?_
          refine a_get fl_X0_15 dX0_greatestWeightWithout_25 rfl rfl ?_
          refine a_iload_n dX0_greatestWeightWithout_28 rfl ?_
          refine a_iald dX0_greatestWeightWithout_29 rfl (in10 (by omega)) ?_
          refine a_max mm_X0_46 mt_max_st ini_J9 mt_max_cd dX0_greatestWeightWithout_30 (by decide) (Nat.le_of_ble_eq_true rfl) (by decide) (by decide) ?_
          refine a_istore_n dX0_greatestWeightWithout_33 (by decide) rfl ?_
          refine a_iinc (nI (j + 1)) dX0_greatestWeightWithout_34 rfl (nI_1 _) (by decide) rfl ?_
          refine a_goto 4 dX0_greatestWeightWithout_37 (by decide) ?_
          exact ih (j + 1) _ (by omega) (by rw [← hr, cl10 (by omega)]; simp [aLp, c12, bI_1 c20])
  exact lp 10 0 0 rfl hr
def fFn (nm : Nat → Int32) (n : Int32) : Int32 := aFd (fun j => decide (nm j = n)) 10 0
theorem c_X0_find (n : Int32) : aRd l X mX0_find rs5 [.ref 0, .int n] (aFt nm wt up ld) (.int (fFn nm n)) := by
  refine aMt.of (by decide) rfl (Nat.le_of_ble_eq_true rfl) ?_
  generalize hr : fFn nm n = r
  refine a_iconst 0 dX0_find_0 (by decide) ?_
  refine a_istore_n dX0_find_1 (by decide) rfl ?_
  have lp : ∀ (k j : Nat), j + k = 10 → aFd (fun j => decide (nm j = n)) k j = r → aJ l X mX0_find (aEd X mX0_find rs5 (fun o h' => o = .inl (some (.int r)) ∧ h' = aFt nm wt up ld)) 0 0 2 [.ref 0, .int n, .int (nI j)] [] (aFt nm wt up ld) := by
    intro k
    induction k with
    | zero =>
      intro j hj hr
      obtain rfl : j = 10 := by omega
      refine a_iload_n dX0_find_2 rfl ?_
      refine a_bipush 10 dX0_find_3 (by decide) ?_
      refine a_icmp_ge 26 dX0_find_5 (by decide) (fun _ => ?_) (fun z => absurd ge10_t z)
      refine a_iconst (-1) dX0_find_26 (by decide) ?_
      refine a_iret rfl dX0_find_27 (by decide) (by decide) ?_
      exact ⟨by rw [← hr]; rfl, rfl⟩
    | succ k ih =>
      intro j hj hr
      refine a_iload_n dX0_find_2 rfl ?_
      refine a_bipush 10 dX0_find_3 (by decide) ?_
      refine a_icmp_ge 26 dX0_find_5 (by decide) (fun z => absurd z (ge10_f (by omega))) (fun _ => ?_)
      refine a_aload_n dX0_find_8 rfl ?_
      refine a_get fl_X0_9 dX0_find_9 rfl rfl ?_
      refine a_iload_n dX0_find_12 rfl ?_
      refine a_iald dX0_find_13 rfl (in10 (by omega)) ?_
      refine a_iload_n dX0_find_14 rfl ?_
      refine a_icmp_ne 20 dX0_find_15 (by decide) (fun c15 => ?_) (fun c15 => ?_)
      · rw [cl10 (by omega)] at c15
        refine a_iinc (nI (j + 1)) dX0_find_20 rfl (nI_1 _) (by decide) rfl ?_
        refine a_goto 2 dX0_find_23 (by decide) ?_
        exact ih (j + 1) (by omega) (by rw [← hr]; simp [aFd, c15])
      · rw [cl10 (by omega)] at c15
        refine a_iload_n dX0_find_18 rfl ?_
        refine a_iret rfl dX0_find_19 (by decide) (by decide) ?_
        exact ⟨by rw [← hr]; simp [aFd, c15], rfl⟩
  exact lp 10 0 rfl hr
theorem c_X0_lowestFree : aRd l X mX0_lowestFree rs5 [.ref 0] (aFt nm wt up ld) (.int (fFn nm 0)) := by
  refine aMt.of (by decide) rfl (Nat.le_of_ble_eq_true rfl) ?_
  refine a_aload_n dX0_lowestFree_0 rfl ?_
  refine a_iconst 0 dX0_lowestFree_1 (by decide) ?_
  refine a_ViR [0, 1, 2, 3, 4] k_X0_lowestFree_42 (c_X0_find (nm := nm) (wt := wt) (up := up) (ld := ld) 0) dX0_lowestFree_2 rfl rfl rfl rfl rfl rfl (Nat.le_of_ble_eq_true rfl) ⟨Nat.le_of_ble_eq_true rfl, Nat.le_of_ble_eq_true rfl⟩ ⟨rfl, rfl⟩ ?_
  refine a_iret rfl dX0_lowestFree_5 (by decide) (by decide) ?_
  exact ⟨rfl, rfl⟩
end FLEET
end
section
/-! written by wip/whole/pp.py out of wip/whole/src/15.fleetw.lean -/
theorem dX0_init_0 : decode cX0_init 0 = .ok (.aload_n 0, 1) := by decide +kernel
theorem dX0_init_1 : decode cX0_init 1 = .ok (.invokespecial 3, 3) := by decide +kernel
theorem dX0_init_4 : decode cX0_init 4 = .ok (.aload_n 0, 1) := by decide +kernel
theorem dX0_init_5 : decode cX0_init 5 = .ok (.bipush 10, 2) := by decide +kernel
theorem dX0_init_7 : decode cX0_init 7 = .ok (.newarray .int, 2) := by decide +kernel
theorem dX0_init_9 : decode cX0_init 9 = .ok (.putfield 9, 3) := by decide +kernel
theorem dX0_init_12 : decode cX0_init 12 = .ok (.aload_n 0, 1) := by decide +kernel
theorem dX0_init_13 : decode cX0_init 13 = .ok (.bipush 10, 2) := by decide +kernel
theorem dX0_init_15 : decode cX0_init 15 = .ok (.newarray .int, 2) := by decide +kernel
theorem dX0_init_17 : decode cX0_init 17 = .ok (.putfield 15, 3) := by decide +kernel
theorem dX0_init_20 : decode cX0_init 20 = .ok (.aload_n 0, 1) := by decide +kernel
theorem dX0_init_21 : decode cX0_init 21 = .ok (.bipush 10, 2) := by decide +kernel
theorem dX0_init_23 : decode cX0_init 23 = .ok (.newarray .boolean, 2) := by decide +kernel
theorem dX0_init_25 : decode cX0_init 25 = .ok (.putfield 18, 3) := by decide +kernel
theorem dX0_init_28 : decode cX0_init 28 = .ok (.aload_n 0, 1) := by decide +kernel
theorem dX0_init_29 : decode cX0_init 29 = .ok (.bipush 10, 2) := by decide +kernel
theorem dX0_init_31 : decode cX0_init 31 = .ok (.newarray .long, 2) := by decide +kernel
theorem dX0_init_33 : decode cX0_init 33 = .ok (.putfield 22, 3) := by decide +kernel
theorem dX0_init_36 : decode cX0_init 36 = .ok (.return_, 1) := by decide +kernel
theorem dX0_clear_0 : decode cX0_clear 0 = .ok (.aload_n 0, 1) := by decide +kernel
theorem dX0_clear_1 : decode cX0_clear 1 = .ok (.getfield 9, 3) := by decide +kernel
theorem dX0_clear_4 : decode cX0_clear 4 = .ok (.iconst 0, 1) := by decide +kernel
theorem dX0_clear_5 : decode cX0_clear 5 = .ok (.invokestatic 26, 3) := by decide +kernel
theorem dX0_clear_8 : decode cX0_clear 8 = .ok (.return_, 1) := by decide +kernel
theorem dX0_copyFrom_0 : decode cX0_copyFrom 0 = .ok (.iconst 0, 1) := by decide +kernel
theorem dX0_copyFrom_1 : decode cX0_copyFrom 1 = .ok (.istore_n 2, 1) := by decide +kernel
theorem dX0_copyFrom_2 : decode cX0_copyFrom 2 = .ok (.iload_n 2, 1) := by decide +kernel
theorem dX0_copyFrom_3 : decode cX0_copyFrom 3 = .ok (.bipush 10, 2) := by decide +kernel
theorem dX0_copyFrom_5 : decode cX0_copyFrom 5 = .ok (.if_icmp .ge 57, 3) := by decide +kernel
theorem dX0_copyFrom_8 : decode cX0_copyFrom 8 = .ok (.aload_n 0, 1) := by decide +kernel
theorem dX0_copyFrom_9 : decode cX0_copyFrom 9 = .ok (.getfield 9, 3) := by decide +kernel
theorem dX0_copyFrom_12 : decode cX0_copyFrom 12 = .ok (.iload_n 2, 1) := by decide +kernel
theorem dX0_copyFrom_13 : decode cX0_copyFrom 13 = .ok (.aload_n 1, 1) := by decide +kernel
theorem dX0_copyFrom_14 : decode cX0_copyFrom 14 = .ok (.getfield 9, 3) := by decide +kernel
theorem dX0_copyFrom_17 : decode cX0_copyFrom 17 = .ok (.iload_n 2, 1) := by decide +kernel
theorem dX0_copyFrom_18 : decode cX0_copyFrom 18 = .ok (.iaload, 1) := by decide +kernel
theorem dX0_copyFrom_19 : decode cX0_copyFrom 19 = .ok (.iastore, 1) := by decide +kernel
theorem dX0_copyFrom_20 : decode cX0_copyFrom 20 = .ok (.aload_n 0, 1) := by decide +kernel
theorem dX0_copyFrom_21 : decode cX0_copyFrom 21 = .ok (.getfield 15, 3) := by decide +kernel
theorem dX0_copyFrom_24 : decode cX0_copyFrom 24 = .ok (.iload_n 2, 1) := by decide +kernel
theorem dX0_copyFrom_25 : decode cX0_copyFrom 25 = .ok (.aload_n 1, 1) := by decide +kernel
theorem dX0_copyFrom_26 : decode cX0_copyFrom 26 = .ok (.getfield 15, 3) := by decide +kernel
theorem dX0_copyFrom_29 : decode cX0_copyFrom 29 = .ok (.iload_n 2, 1) := by decide +kernel
theorem dX0_copyFrom_30 : decode cX0_copyFrom 30 = .ok (.iaload, 1) := by decide +kernel
theorem dX0_copyFrom_31 : decode cX0_copyFrom 31 = .ok (.iastore, 1) := by decide +kernel
theorem dX0_copyFrom_32 : decode cX0_copyFrom 32 = .ok (.aload_n 0, 1) := by decide +kernel
theorem dX0_copyFrom_33 : decode cX0_copyFrom 33 = .ok (.getfield 18, 3) := by decide +kernel
theorem dX0_copyFrom_36 : decode cX0_copyFrom 36 = .ok (.iload_n 2, 1) := by decide +kernel
theorem dX0_copyFrom_37 : decode cX0_copyFrom 37 = .ok (.aload_n 1, 1) := by decide +kernel
theorem dX0_copyFrom_38 : decode cX0_copyFrom 38 = .ok (.getfield 18, 3) := by decide +kernel
theorem dX0_copyFrom_41 : decode cX0_copyFrom 41 = .ok (.iload_n 2, 1) := by decide +kernel
theorem dX0_copyFrom_42 : decode cX0_copyFrom 42 = .ok (.baload, 1) := by decide +kernel
theorem dX0_copyFrom_43 : decode cX0_copyFrom 43 = .ok (.bastore, 1) := by decide +kernel
theorem dX0_copyFrom_44 : decode cX0_copyFrom 44 = .ok (.aload_n 0, 1) := by decide +kernel
theorem dX0_copyFrom_45 : decode cX0_copyFrom 45 = .ok (.getfield 22, 3) := by decide +kernel
theorem dX0_copyFrom_48 : decode cX0_copyFrom 48 = .ok (.iload_n 2, 1) := by decide +kernel
theorem dX0_copyFrom_49 : decode cX0_copyFrom 49 = .ok (.aload_n 1, 1) := by decide +kernel
theorem dX0_copyFrom_50 : decode cX0_copyFrom 50 = .ok (.getfield 22, 3) := by decide +kernel
theorem dX0_copyFrom_53 : decode cX0_copyFrom 53 = .ok (.iload_n 2, 1) := by decide +kernel
theorem dX0_copyFrom_54 : decode cX0_copyFrom 54 = .ok (.laload, 1) := by decide +kernel
theorem dX0_copyFrom_55 : decode cX0_copyFrom 55 = .ok (.lastore, 1) := by decide +kernel
theorem dX0_copyFrom_56 : decode cX0_copyFrom 56 = .ok (.iinc 2 1, 3) := by decide +kernel
theorem dX0_copyFrom_59 : decode cX0_copyFrom 59 = .ok (.goto (-57), 3) := by decide +kernel
theorem dX0_copyFrom_62 : decode cX0_copyFrom 62 = .ok (.return_, 1) := by decide +kernel
theorem dX0_put_0 : decode cX0_put 0 = .ok (.iload_n 1, 1) := by decide +kernel
theorem dX0_put_1 : decode cX0_put 1 = .ok (.invokestatic 32, 3) := by decide +kernel
theorem dX0_put_4 : decode cX0_put 4 = .ok (.ifCond .eq 31, 3) := by decide +kernel
theorem dX0_put_7 : decode cX0_put 7 = .ok (.aload_n 0, 1) := by decide +kernel
theorem dX0_put_8 : decode cX0_put 8 = .ok (.getfield 9, 3) := by decide +kernel
theorem dX0_put_11 : decode cX0_put 11 = .ok (.iload_n 1, 1) := by decide +kernel
theorem dX0_put_12 : decode cX0_put 12 = .ok (.iload_n 2, 1) := by decide +kernel
theorem dX0_put_13 : decode cX0_put 13 = .ok (.iastore, 1) := by decide +kernel
theorem dX0_put_14 : decode cX0_put 14 = .ok (.aload_n 0, 1) := by decide +kernel
theorem dX0_put_15 : decode cX0_put 15 = .ok (.getfield 15, 3) := by decide +kernel
theorem dX0_put_18 : decode cX0_put 18 = .ok (.iload_n 1, 1) := by decide +kernel
theorem dX0_put_19 : decode cX0_put 19 = .ok (.iload_n 3, 1) := by decide +kernel
theorem dX0_put_20 : decode cX0_put 20 = .ok (.iastore, 1) := by decide +kernel
theorem dX0_put_21 : decode cX0_put 21 = .ok (.aload_n 0, 1) := by decide +kernel
theorem dX0_put_22 : decode cX0_put 22 = .ok (.getfield 18, 3) := by decide +kernel
theorem dX0_put_25 : decode cX0_put 25 = .ok (.iload_n 1, 1) := by decide +kernel
theorem dX0_put_26 : decode cX0_put 26 = .ok (.iconst 1, 1) := by decide +kernel
theorem dX0_put_27 : decode cX0_put 27 = .ok (.bastore, 1) := by decide +kernel
theorem dX0_put_28 : decode cX0_put 28 = .ok (.aload_n 0, 1) := by decide +kernel
theorem dX0_put_29 : decode cX0_put 29 = .ok (.getfield 22, 3) := by decide +kernel
theorem dX0_put_32 : decode cX0_put 32 = .ok (.iload_n 1, 1) := by decide +kernel
theorem dX0_put_33 : decode cX0_put 33 = .ok (.lconst 0, 1) := by decide +kernel
theorem dX0_put_34 : decode cX0_put 34 = .ok (.lastore, 1) := by decide +kernel
theorem dX0_put_35 : decode cX0_put 35 = .ok (.return_, 1) := by decide +kernel
theorem dX0_drop_0 : decode cX0_drop 0 = .ok (.iload_n 1, 1) := by decide +kernel
theorem dX0_drop_1 : decode cX0_drop 1 = .ok (.invokestatic 32, 3) := by decide +kernel
theorem dX0_drop_4 : decode cX0_drop 4 = .ok (.ifCond .eq 10, 3) := by decide +kernel
theorem dX0_drop_7 : decode cX0_drop 7 = .ok (.aload_n 0, 1) := by decide +kernel
theorem dX0_drop_8 : decode cX0_drop 8 = .ok (.getfield 9, 3) := by decide +kernel
theorem dX0_drop_11 : decode cX0_drop 11 = .ok (.iload_n 1, 1) := by decide +kernel
theorem dX0_drop_12 : decode cX0_drop 12 = .ok (.iconst 0, 1) := by decide +kernel
theorem dX0_drop_13 : decode cX0_drop 13 = .ok (.iastore, 1) := by decide +kernel
theorem dX0_drop_14 : decode cX0_drop 14 = .ok (.return_, 1) := by decide +kernel
theorem dX0_changeWeight_0 : decode cX0_changeWeight 0 = .ok (.aload_n 0, 1) := by decide +kernel
theorem dX0_changeWeight_1 : decode cX0_changeWeight 1 = .ok (.iload_n 1, 1) := by decide +kernel
theorem dX0_changeWeight_2 : decode cX0_changeWeight 2 = .ok (.invokevirtual 36, 3) := by decide +kernel
theorem dX0_changeWeight_5 : decode cX0_changeWeight 5 = .ok (.ifCond .eq 10, 3) := by decide +kernel
theorem dX0_changeWeight_8 : decode cX0_changeWeight 8 = .ok (.aload_n 0, 1) := by decide +kernel
theorem dX0_changeWeight_9 : decode cX0_changeWeight 9 = .ok (.getfield 15, 3) := by decide +kernel
theorem dX0_changeWeight_12 : decode cX0_changeWeight 12 = .ok (.iload_n 1, 1) := by decide +kernel
theorem dX0_changeWeight_13 : decode cX0_changeWeight 13 = .ok (.iload_n 2, 1) := by decide +kernel
theorem dX0_changeWeight_14 : decode cX0_changeWeight 14 = .ok (.iastore, 1) := by decide +kernel
theorem dX0_changeWeight_15 : decode cX0_changeWeight 15 = .ok (.return_, 1) := by decide +kernel
theorem dX0_changeUp_0 : decode cX0_changeUp 0 = .ok (.aload_n 0, 1) := by decide +kernel
theorem dX0_changeUp_1 : decode cX0_changeUp 1 = .ok (.iload_n 1, 1) := by decide +kernel
theorem dX0_changeUp_2 : decode cX0_changeUp 2 = .ok (.invokevirtual 36, 3) := by decide +kernel
theorem dX0_changeUp_5 : decode cX0_changeUp 5 = .ok (.ifCond .eq 10, 3) := by decide +kernel
theorem dX0_changeUp_8 : decode cX0_changeUp 8 = .ok (.aload_n 0, 1) := by decide +kernel
theorem dX0_changeUp_9 : decode cX0_changeUp 9 = .ok (.getfield 18, 3) := by decide +kernel
theorem dX0_changeUp_12 : decode cX0_changeUp 12 = .ok (.iload_n 1, 1) := by decide +kernel
theorem dX0_changeUp_13 : decode cX0_changeUp 13 = .ok (.iload_n 2, 1) := by decide +kernel
theorem dX0_changeUp_14 : decode cX0_changeUp 14 = .ok (.bastore, 1) := by decide +kernel
theorem dX0_changeUp_15 : decode cX0_changeUp 15 = .ok (.return_, 1) := by decide +kernel
theorem dX0_addLoad_0 : decode cX0_addLoad 0 = .ok (.aload_n 0, 1) := by decide +kernel
theorem dX0_addLoad_1 : decode cX0_addLoad 1 = .ok (.iload_n 1, 1) := by decide +kernel
theorem dX0_addLoad_2 : decode cX0_addLoad 2 = .ok (.invokevirtual 36, 3) := by decide +kernel
theorem dX0_addLoad_5 : decode cX0_addLoad 5 = .ok (.ifCond .eq 14, 3) := by decide +kernel
theorem dX0_addLoad_8 : decode cX0_addLoad 8 = .ok (.aload_n 0, 1) := by decide +kernel
theorem dX0_addLoad_9 : decode cX0_addLoad 9 = .ok (.getfield 22, 3) := by decide +kernel
theorem dX0_addLoad_12 : decode cX0_addLoad 12 = .ok (.iload_n 1, 1) := by decide +kernel
theorem dX0_addLoad_13 : decode cX0_addLoad 13 = .ok (.dup2, 1) := by decide +kernel
theorem dX0_addLoad_14 : decode cX0_addLoad 14 = .ok (.laload, 1) := by decide +kernel
theorem dX0_addLoad_15 : decode cX0_addLoad 15 = .ok (.iload_n 2, 1) := by decide +kernel
theorem dX0_addLoad_16 : decode cX0_addLoad 16 = .ok (.i2l, 1) := by decide +kernel
theorem dX0_addLoad_17 : decode cX0_addLoad 17 = .ok (.ladd, 1) := by decide +kernel
theorem dX0_addLoad_18 : decode cX0_addLoad 18 = .ok (.lastore, 1) := by decide +kernel
theorem dX0_addLoad_19 : decode cX0_addLoad 19 = .ok (.return_, 1) := by decide +kernel
theorem dJ7_fill_53178_0 : decode cJ7_fill_53178 0 = .ok (.iconst 0, 1) := by decide +kernel
theorem dJ7_fill_53178_1 : decode cJ7_fill_53178 1 = .ok (.istore_n 2, 1) := by decide +kernel
theorem dJ7_fill_53178_2 : decode cJ7_fill_53178 2 = .ok (.aload_n 0, 1) := by decide +kernel
theorem dJ7_fill_53178_3 : decode cJ7_fill_53178 3 = .ok (.arraylength, 1) := by decide +kernel
theorem dJ7_fill_53178_4 : decode cJ7_fill_53178 4 = .ok (.istore_n 3, 1) := by decide +kernel
theorem dJ7_fill_53178_5 : decode cJ7_fill_53178 5 = .ok (.iload_n 2, 1) := by decide +kernel
theorem dJ7_fill_53178_6 : decode cJ7_fill_53178 6 = .ok (.iload_n 3, 1) := by decide +kernel
theorem dJ7_fill_53178_7 : decode cJ7_fill_53178 7 = .ok (.if_icmp .ge 13, 3) := by decide +kernel
theorem dJ7_fill_53178_10 : decode cJ7_fill_53178 10 = .ok (.aload_n 0, 1) := by decide +kernel
theorem dJ7_fill_53178_11 : decode cJ7_fill_53178 11 = .ok (.iload_n 2, 1) := by decide +kernel
theorem dJ7_fill_53178_12 : decode cJ7_fill_53178 12 = .ok (.iload_n 1, 1) := by decide +kernel
theorem dJ7_fill_53178_13 : decode cJ7_fill_53178 13 = .ok (.iastore, 1) := by decide +kernel
theorem dJ7_fill_53178_14 : decode cJ7_fill_53178 14 = .ok (.iinc 2 1, 3) := by decide +kernel
theorem dJ7_fill_53178_17 : decode cJ7_fill_53178 17 = .ok (.goto (-12), 3) := by decide +kernel
theorem dJ7_fill_53178_20 : decode cJ7_fill_53178 20 = .ok (.return_, 1) := by decide +kernel
theorem k_X0_clear_26 : aKS mX0_clear mJ7_fill_53178 26 2 := ⟨cb_J7_fill_53178, rfl, ml_X0_26, st_J7_fill_53178, ⟨Nat.le_of_ble_eq_true rfl, Nat.le_of_ble_eq_true rfl⟩⟩
theorem k_X0_put_32 : aKS mX0_put mX0_isNumber 32 1 := ⟨cb_X0_isNumber, rfl, ml_X0_32, st_X0_isNumber, ⟨Nat.le_of_ble_eq_true rfl, Nat.le_of_ble_eq_true rfl⟩⟩
theorem k_X0_drop_32 : aKS mX0_drop mX0_isNumber 32 1 := ⟨cb_X0_isNumber, rfl, ml_X0_32, st_X0_isNumber, ⟨Nat.le_of_ble_eq_true rfl, Nat.le_of_ble_eq_true rfl⟩⟩
theorem k_X0_changeWeight_36 : aKV mX0_changeWeight mX0_has 36 1 0 := ⟨cb_X0_has, rfl, ml_X0_36, iv_X0_has, sl_X0_has, ⟨_, _, rfl⟩, ⟨Nat.le_of_ble_eq_true rfl, Nat.le_of_ble_eq_true rfl⟩⟩
theorem k_X0_changeUp_36 : aKV mX0_changeUp mX0_has 36 1 0 := ⟨cb_X0_has, rfl, ml_X0_36, iv_X0_has, sl_X0_has, ⟨_, _, rfl⟩, ⟨Nat.le_of_ble_eq_true rfl, Nat.le_of_ble_eq_true rfl⟩⟩
theorem k_X0_addLoad_36 : aKV mX0_addLoad mX0_has 36 1 0 := ⟨cb_X0_has, rfl, ml_X0_36, iv_X0_has, sl_X0_has, ⟨_, _, rfl⟩, ⟨Nat.le_of_ble_eq_true rfl, Nat.le_of_ble_eq_true rfl⟩⟩
/-! ===== Fleet: writes ===== -/
section FLEETW
variable {l : Launch} {X : aX} {nm wt up : Nat → Int32} {ld : Nat → Int64}
/-- the first n places are v's -/
def fFl {α : Type} (n : Nat) (v f : Nat → α) : Nat → α := fun j => if j < n then v j else f j
theorem fFl_0 {α : Type} (v f : Nat → α) : fFl 0 v f = f := by funext j; simp [fFl]
theorem fFl_s {k : Nat} {v f : Nat → Int32} : upd (fFl k v f) k (v k) = fFl (k + 1) v f := by
  funext j
  simp only [upd, fFl]
  by_cases h : j = k
  · subst h; simp
  · by_cases h2 : j < k
    · simp [h, h2, Nat.lt_succ_of_lt h2]
    · have : ¬ j < k + 1 := by omega
      simp [h, h2, this]
theorem fFl_sL {k : Nat} {v f : Nat → Int64} : vp_updL (fFl k v f) k (v k) = fFl (k + 1) v f := by
  funext j
  simp only [vp_updL, fFl]
  by_cases h : j = k
  · subst h; simp
  · by_cases h2 : j < k
    · simp [h, h2, Nat.lt_succ_of_lt h2]
    · have : ¬ j < k + 1 := by omega
      simp [h, h2, this]
theorem c_J7_fill (n : Nat) (hn : n < 1000) (f : Nat → Int32) (v : Int32) : aWr l X mJ7_fill_53178 [0] [.ref 0, .int v] [aIa n f] none [aIa n (fFl n (fun _ => v) f)] := by
  refine aMt.of (by decide) rfl (Nat.le_of_ble_eq_true rfl) ?_
  refine a_iconst 0 dJ7_fill_53178_0 (by decide) ?_
  refine a_istore_n dJ7_fill_53178_1 (by decide) rfl ?_
  refine a_aload_n dJ7_fill_53178_2 rfl ?_
  refine a_alen _ dJ7_fill_53178_3 rfl rfl ?_
  refine a_istore_n dJ7_fill_53178_4 (by decide) rfl ?_
  have lp : ∀ (k j : Nat), j + k = n → aJ l X mJ7_fill_53178 (aEd X mJ7_fill_53178 [0] (fun o h' => o = .inl none ∧ h' = [aIa n (fFl n (fun _ => v) f)])) 0 0 5 [.ref 0, .int v, .int (nI j), .int (nI n)] [] [aIa n (fFl j (fun _ => v) f)] := by
    intro k
    induction k with
    | zero =>
      intro j hj
      obtain rfl : j = n := by omega
      refine a_iload_n dJ7_fill_53178_5 rfl ?_
      refine a_iload_n dJ7_fill_53178_6 rfl ?_
      refine a_icmp_ge 20 dJ7_fill_53178_7 (by decide) (fun _ => ?_) (fun z => absurd (nI_le (Nat.le_refl j) (by omega)) z)
      refine a_vret rfl dJ7_fill_53178_20 (by decide) (by decide) ?_
      exact ⟨rfl, rfl⟩
    | succ k ih =>
      intro j hj
      refine a_iload_n dJ7_fill_53178_5 rfl ?_
      refine a_iload_n dJ7_fill_53178_6 rfl ?_
      refine a_icmp_ge 20 dJ7_fill_53178_7 (by decide) (fun z => absurd z (nI_ge (by omega) (by omega))) (fun _ => ?_)
      refine a_aload_n dJ7_fill_53178_10 rfl ?_
      refine a_iload_n dJ7_fill_53178_11 rfl ?_
      refine a_iload_n dJ7_fill_53178_12 rfl ?_
      refine a_iast dJ7_fill_53178_13 rfl (vp_in_nI (by omega) (by omega)) ?_
      refine a_iinc (nI (j + 1)) dJ7_fill_53178_14 rfl (nI_1 _) (by decide) rfl ?_
      refine a_goto 5 dJ7_fill_53178_17 (by decide) ?_
      have e : (nI j).toNatClampNeg = j := nI_clamp (by omega)
      rw [e, fFl_s (v := fun _ => v)]
      exact ih (j + 1) (by omega)
  have := lp n 0 (by omega)
  rw [fFl_0] at this
  exact this
theorem c_X0_clear : aWr l X mX0_clear rs5 [.ref 0] (aFt nm wt up ld) none (aFt (fFl 10 (fun _ => 0) nm) wt up ld) := by
  refine aMt.of (by decide) rfl (Nat.le_of_ble_eq_true rfl) ?_
  refine a_aload_n dX0_clear_0 rfl ?_
  refine a_get fl_X0_9 dX0_clear_1 rfl rfl ?_
  refine a_iconst 0 dX0_clear_4 (by decide) ?_
  refine a_SvW [1] (aFt (fFl 10 (fun _ => 0) nm) wt up ld) k_X0_clear_26 (c_J7_fill 10 (by decide) nm 0) dX0_clear_5 rfl rfl rfl rfl rfl (Nat.le_of_ble_eq_true rfl) ⟨Nat.le_of_ble_eq_true rfl, Nat.le_of_ble_eq_true rfl⟩ ⟨rfl, rfl⟩ (Nat.le_of_ble_eq_true rfl) rfl ?_
  refine a_vret rfl dX0_clear_8 (by decide) (by decide) ?_
  exact ⟨rfl, rfl⟩
theorem c_X0_put (s n w : Int32) (hs : fNm s = true) : aWr l X mX0_put rs5 [.ref 0, .int s, .int n, .int w] (aFt nm wt up ld) none (aFt (upd nm s.toNatClampNeg n) (upd wt s.toNatClampNeg w) (upd up s.toNatClampNeg 1) (vp_updL ld s.toNatClampNeg 0)) := by
  refine aMt.of (by decide) rfl (Nat.le_of_ble_eq_true rfl) ?_
  have hi := fNm_in hs
  refine a_iload_n dX0_put_0 rfl ?_
  refine a_SiR [] k_X0_put_32 (c_X0_isNumber s) dX0_put_1 rfl rfl rfl rfl rfl (Nat.le_of_ble_eq_true rfl) ⟨Nat.le_of_ble_eq_true rfl, Nat.le_of_ble_eq_true rfl⟩ ⟨rfl, rfl⟩ ?_
  refine a_if_eq 35 dX0_put_4 (by decide) (fun c4 => ?_) (fun c4 => ?_)
  · exact absurd (bI_0 c4) (by rw [hs]; decide)
  · refine a_aload_n dX0_put_7 rfl ?_
    refine a_get fl_X0_9 dX0_put_8 rfl rfl ?_
    refine a_iload_n dX0_put_11 rfl ?_
    refine a_iload_n dX0_put_12 rfl ?_
    refine a_iast dX0_put_13 rfl (by assumption) ?_
    refine a_aload_n dX0_put_14 rfl ?_
    refine a_get fl_X0_15 dX0_put_15 rfl rfl ?_
    refine a_iload_n dX0_put_18 rfl ?_
    refine a_iload_n dX0_put_19 rfl ?_
    refine a_iast dX0_put_20 rfl (by assumption) ?_
    refine a_aload_n dX0_put_21 rfl ?_
    refine a_get fl_X0_18 dX0_put_22 rfl rfl ?_
    refine a_iload_n dX0_put_25 rfl ?_
    refine a_iconst 1 dX0_put_26 (by decide) ?_
    refine a_zast dX0_put_27 rfl (by assumption) ?_
    refine a_aload_n dX0_put_28 rfl ?_
    refine a_get fl_X0_22 dX0_put_29 rfl rfl ?_
    refine a_iload_n dX0_put_32 rfl ?_
    refine a_lconst 0 dX0_put_33 (by decide) ?_
    refine a_last dX0_put_34 rfl (by assumption) ?_
    refine a_vret rfl dX0_put_35 (by decide) (by decide) ?_
    exact ⟨rfl, rfl⟩
theorem c_X0_drop (s : Int32) (hs : fNm s = true) : aWr l X mX0_drop rs5 [.ref 0, .int s] (aFt nm wt up ld) none (aFt (upd nm s.toNatClampNeg 0) wt up ld) := by
  refine aMt.of (by decide) rfl (Nat.le_of_ble_eq_true rfl) ?_
  have hi := fNm_in hs
  refine a_iload_n dX0_drop_0 rfl ?_
  refine a_SiR [] k_X0_drop_32 (c_X0_isNumber s) dX0_drop_1 rfl rfl rfl rfl rfl (Nat.le_of_ble_eq_true rfl) ⟨Nat.le_of_ble_eq_true rfl, Nat.le_of_ble_eq_true rfl⟩ ⟨rfl, rfl⟩ ?_
  refine a_if_eq 14 dX0_drop_4 (by decide) (fun c4 => ?_) (fun c4 => ?_)
  · exact absurd (bI_0 c4) (by rw [hs]; decide)
  · refine a_aload_n dX0_drop_7 rfl ?_
    refine a_get fl_X0_9 dX0_drop_8 rfl rfl ?_
    refine a_iload_n dX0_drop_11 rfl ?_
    refine a_iconst 0 dX0_drop_12 (by decide) ?_
    refine a_iast dX0_drop_13 rfl (by assumption) ?_
    refine a_vret rfl dX0_drop_14 (by decide) (by decide) ?_
    exact ⟨rfl, rfl⟩
theorem c_X0_changeWeight (s w : Int32) (hs : fHs nm s = true) : aWr l X mX0_changeWeight rs5 [.ref 0, .int s, .int w] (aFt nm wt up ld) none (aFt nm (upd wt s.toNatClampNeg w) up ld) := by
  refine aMt.of (by decide) rfl (Nat.le_of_ble_eq_true rfl) ?_
  have hi := fHs_in hs
  refine a_aload_n dX0_changeWeight_0 rfl ?_
  refine a_iload_n dX0_changeWeight_1 rfl ?_
  refine a_ViR [0, 1, 2, 3, 4] k_X0_changeWeight_36 (c_X0_has (nm := nm) (wt := wt) (up := up) (ld := ld) s) dX0_changeWeight_2 rfl rfl rfl rfl rfl rfl (Nat.le_of_ble_eq_true rfl) ⟨Nat.le_of_ble_eq_true rfl, Nat.le_of_ble_eq_true rfl⟩ ⟨rfl, rfl⟩ ?_
  refine a_if_eq 15 dX0_changeWeight_5 (by decide) (fun c5 => ?_) (fun c5 => ?_)
  · exact absurd (bI_0 c5) (by rw [hs]; decide)
  · refine a_aload_n dX0_changeWeight_8 rfl ?_
    refine a_get fl_X0_15 dX0_changeWeight_9 rfl rfl ?_
    refine a_iload_n dX0_changeWeight_12 rfl ?_
    refine a_iload_n dX0_changeWeight_13 rfl ?_
    refine a_iast dX0_changeWeight_14 rfl (by assumption) ?_
    refine a_vret rfl dX0_changeWeight_15 (by decide) (by decide) ?_
    exact ⟨rfl, rfl⟩
theorem c_X0_changeUp (s : Int32) (b : Bool) (hs : fHs nm s = true) : aWr l X mX0_changeUp rs5 [.ref 0, .int s, .int (bI b)] (aFt nm wt up ld) none (aFt nm wt (upd up s.toNatClampNeg (bI b)) ld) := by
  refine aMt.of (by decide) rfl (Nat.le_of_ble_eq_true rfl) ?_
  have hi := fHs_in hs
  refine a_aload_n dX0_changeUp_0 rfl ?_
  refine a_iload_n dX0_changeUp_1 rfl ?_
  refine a_ViR [0, 1, 2, 3, 4] k_X0_changeUp_36 (c_X0_has (nm := nm) (wt := wt) (up := up) (ld := ld) s) dX0_changeUp_2 rfl rfl rfl rfl rfl rfl (Nat.le_of_ble_eq_true rfl) ⟨Nat.le_of_ble_eq_true rfl, Nat.le_of_ble_eq_true rfl⟩ ⟨rfl, rfl⟩ ?_
  refine a_if_eq 15 dX0_changeUp_5 (by decide) (fun c5 => ?_) (fun c5 => ?_)
  · exact absurd (bI_0 c5) (by rw [hs]; decide)
  · refine a_aload_n dX0_changeUp_8 rfl ?_
    refine a_get fl_X0_18 dX0_changeUp_9 rfl rfl ?_
    refine a_iload_n dX0_changeUp_12 rfl ?_
    refine a_iload_n dX0_changeUp_13 rfl ?_
    refine a_zast dX0_changeUp_14 rfl (by assumption) ?_
    refine a_vret rfl dX0_changeUp_15 (by decide) (by decide) ?_
    exact ⟨rfl, by rw [bI_vp]; rfl⟩
theorem c_X0_addLoad (s n : Int32) : aWr l X mX0_addLoad rs5 [.ref 0, .int s, .int n] (aFt nm wt up ld) none (aFt nm wt up (if fHs nm s then vp_updL ld s.toNatClampNeg (ld s.toNatClampNeg + n.toInt64) else ld)) := by
  refine aMt.of (by decide) rfl (Nat.le_of_ble_eq_true rfl) ?_
  refine a_aload_n dX0_addLoad_0 rfl ?_
  refine a_iload_n dX0_addLoad_1 rfl ?_
  refine a_ViR [0, 1, 2, 3, 4] k_X0_addLoad_36 (c_X0_has (nm := nm) (wt := wt) (up := up) (ld := ld) s) dX0_addLoad_2 rfl rfl rfl rfl rfl rfl (Nat.le_of_ble_eq_true rfl) ⟨Nat.le_of_ble_eq_true rfl, Nat.le_of_ble_eq_true rfl⟩ ⟨rfl, rfl⟩ ?_
  refine a_if_eq 19 dX0_addLoad_5 (by decide) (fun c5 => ?_) (fun c5 => ?_)
  · refine a_vret rfl dX0_addLoad_19 (by decide) (by decide) ?_
    exact ⟨rfl, by rw [bI_0 c5]; rfl⟩
  · have hi := fHs_in (bI_1 c5)
    refine a_aload_n dX0_addLoad_8 rfl ?_
    refine a_get fl_X0_22 dX0_addLoad_9 rfl rfl ?_
    refine a_iload_n dX0_addLoad_12 rfl ?_
    refine a_dup2 dX0_addLoad_13 rfl rfl ?_
    refine a_lald dX0_addLoad_14 rfl (by assumption) ?_
    refine a_iload_n dX0_addLoad_15 rfl ?_
    refine a_i2l dX0_addLoad_16 ?_
    refine a_ladd dX0_addLoad_17 ?_
    refine a_last dX0_addLoad_18 rfl (by assumption) ?_
    refine a_vret rfl dX0_addLoad_19 (by decide) (by decide) ?_
    exact ⟨rfl, by rw [bI_1 c5]; rfl⟩
/-- two fleets -/
abbrev aFt2 (nm wt up : Nat → Int32) (ld : Nat → Int64) (nm2 wt2 up2 : Nat → Int32) (ld2 : Nat → Int64) : List aCell := [aOb 0 [.ref 1, .ref 2, .ref 3, .ref 4], aIa 10 nm, aIa 10 wt, aBa 10 up, aLa 10 ld, aOb 0 [.ref 6, .ref 7, .ref 8, .ref 9], aIa 10 nm2, aIa 10 wt2, aBa 10 up2, aLa 10 ld2]
abbrev rs10 : List Nat := [0, 1, 2, 3, 4, 5, 6, 7, 8, 9]
theorem c_X0_copyFrom {nm2 wt2 up2 : Nat → Int32} {ld2 : Nat → Int64} (hz : ∀ j, j < 10 → vp_nar .boolean (up2 j) = up2 j) : aWr l X mX0_copyFrom rs10 [.ref 0, .ref 5] (aFt2 nm wt up ld nm2 wt2 up2 ld2) none (aFt2 (fFl 10 nm2 nm) (fFl 10 wt2 wt) (fFl 10 up2 up) (fFl 10 ld2 ld) nm2 wt2 up2 ld2) := by
  refine aMt.of (by decide) rfl (Nat.le_of_ble_eq_true rfl) ?_
  refine a_iconst 0 dX0_copyFrom_0 (by decide) ?_
  refine a_istore_n dX0_copyFrom_1 (by decide) rfl ?_
  have lp : ∀ (k j : Nat), j + k = 10 → aJ l X mX0_copyFrom (aEd X mX0_copyFrom rs10 (fun o h' => o = .inl none ∧ h' = aFt2 (fFl 10 nm2 nm) (fFl 10 wt2 wt) (fFl 10 up2 up) (fFl 10 ld2 ld) nm2 wt2 up2 ld2)) 0 0 2 [.ref 0, .ref 5, .int (nI j)] [] (aFt2 (fFl j nm2 nm) (fFl j wt2 wt) (fFl j up2 up) (fFl j ld2 ld) nm2 wt2 up2 ld2) := by
    intro k
    induction k with
    | zero =>
      intro j hj
      obtain rfl : j = 10 := by omega
      refine a_iload_n dX0_copyFrom_2 rfl ?_
      refine a_bipush 10 dX0_copyFrom_3 (by decide) ?_
      refine a_icmp_ge 62 dX0_copyFrom_5 (by decide) (fun _ => ?_) (fun z => absurd ge10_t z)
      refine a_vret rfl dX0_copyFrom_62 (by decide) (by decide) ?_
      exact ⟨rfl, rfl⟩
    | succ k ih =>
      intro j hj
      have hi : vp_in (nI j) 10 := in10 (by omega)
      refine a_iload_n dX0_copyFrom_2 rfl ?_
      refine a_bipush 10 dX0_copyFrom_3 (by decide) ?_
      refine a_icmp_ge 62 dX0_copyFrom_5 (by decide) (fun z => absurd z (ge10_f (by omega))) (fun _ => ?_)
      refine a_aload_n dX0_copyFrom_8 rfl ?_
      refine a_get fl_X0_9 dX0_copyFrom_9 rfl rfl ?_
      refine a_iload_n dX0_copyFrom_12 rfl ?_
      refine a_aload_n dX0_copyFrom_13 rfl ?_
      refine a_get fl_X0_9 dX0_copyFrom_14 rfl rfl ?_
      refine a_iload_n dX0_copyFrom_17 rfl ?_
      refine a_iald dX0_copyFrom_18 rfl (by assumption) ?_
      refine a_iast dX0_copyFrom_19 rfl (by assumption) ?_
      refine a_aload_n dX0_copyFrom_20 rfl ?_
      refine a_get fl_X0_15 dX0_copyFrom_21 rfl rfl ?_
      refine a_iload_n dX0_copyFrom_24 rfl ?_
      refine a_aload_n dX0_copyFrom_25 rfl ?_
      refine a_get fl_X0_15 dX0_copyFrom_26 rfl rfl ?_
      refine a_iload_n dX0_copyFrom_29 rfl ?_
      refine a_iald dX0_copyFrom_30 rfl (by assumption) ?_
      refine a_iast dX0_copyFrom_31 rfl (by assumption) ?_
      refine a_aload_n dX0_copyFrom_32 rfl ?_
      refine a_get fl_X0_18 dX0_copyFrom_33 rfl rfl ?_
      refine a_iload_n dX0_copyFrom_36 rfl ?_
      refine a_aload_n dX0_copyFrom_37 rfl ?_
      refine a_get fl_X0_18 dX0_copyFrom_38 rfl rfl ?_
      refine a_iload_n dX0_copyFrom_41 rfl ?_
      refine a_zald dX0_copyFrom_42 rfl (by assumption) ?_
      refine a_zast dX0_copyFrom_43 rfl (by assumption) ?_
      refine a_aload_n dX0_copyFrom_44 rfl ?_
      refine a_get fl_X0_22 dX0_copyFrom_45 rfl rfl ?_
      refine a_iload_n dX0_copyFrom_48 rfl ?_
      refine a_aload_n dX0_copyFrom_49 rfl ?_
      refine a_get fl_X0_22 dX0_copyFrom_50 rfl rfl ?_
      refine a_iload_n dX0_copyFrom_53 rfl ?_
      refine a_lald dX0_copyFrom_54 rfl (by assumption) ?_
      refine a_last dX0_copyFrom_55 rfl (by assumption) ?_
      refine a_iinc (nI (j + 1)) dX0_copyFrom_56 rfl (nI_1 _) (by decide) rfl ?_
      refine a_goto 2 dX0_copyFrom_59 (by decide) ?_
      refine a_to rfl rfl rfl ?_ (ih (j + 1) (by omega))
      have e : (nI j).toNatClampNeg = j := cl10 (by omega)
      rw [e, hz j (by omega), fFl_s, fFl_s, fFl_s, fFl_sL]
      rfl
  have := lp 10 0 (by omega)
  rw [fFl_0, fFl_0, fFl_0, fFl_0] at this
  exact this
theorem c_X0_init : aWr l X mX0_init [0] [.ref 0] [aOb 0 [.null, .null, .null, .null]] none (aFt (fun _ => 0) (fun _ => 0) (fun _ => 0) (fun _ => 0)) := by
  refine aMt.of (by decide) rfl (Nat.le_of_ble_eq_true rfl) ?_
  refine a_aload_n dX0_init_0 rfl ?_
  refine a_objInit ml_X0_3 oi_iv oi_cd dX0_init_1 (by decide) (Nat.le_of_ble_eq_true rfl) ?_
  refine a_aload_n dX0_init_4 rfl ?_
  refine a_bipush 10 dX0_init_5 (by decide) ?_
  refine a_newi 10 ar_int (by decide) (by decide) (by decide) dX0_init_7 rfl (by decide) (by decide) ?_
  refine a_putF fp_X0_9 rfl dX0_init_9 rfl (Nat.le_of_ble_eq_true rfl) (fun _ => ⟨rfl, rfl⟩) ?_
  refine a_aload_n dX0_init_12 rfl ?_
  refine a_bipush 10 dX0_init_13 (by decide) ?_
  refine a_newi 10 ar_int (by decide) (by decide) (by decide) dX0_init_15 rfl (by decide) (by decide) ?_
  refine a_putF fp_X0_15 rfl dX0_init_17 rfl (Nat.le_of_ble_eq_true rfl) (fun _ => ⟨rfl, rfl⟩) ?_
  refine a_aload_n dX0_init_20 rfl ?_
  refine a_bipush 10 dX0_init_21 (by decide) ?_
  refine a_newz 10 ar_boolean (by decide) (by decide) (by decide) dX0_init_23 rfl (by decide) (by decide) ?_
  refine a_putF fp_X0_18 rfl dX0_init_25 rfl (Nat.le_of_ble_eq_true rfl) (fun _ => ⟨rfl, rfl⟩) ?_
  refine a_aload_n dX0_init_28 rfl ?_
  refine a_bipush 10 dX0_init_29 (by decide) ?_
  refine a_newl 10 ar_long (by decide) (by decide) (by decide) dX0_init_31 rfl (by decide) (by decide) ?_
  refine a_putF fp_X0_22 rfl dX0_init_33 rfl (Nat.le_of_ble_eq_true rfl) (fun _ => ⟨rfl, rfl⟩) ?_
  refine a_vret rfl dX0_init_36 (by decide) (by decide) ?_
  exact ⟨rfl, rfl⟩
end FLEETW
end
section
/-! written by wip/whole/pp.py out of wip/whole/src/16.pins.lean -/
theorem dX2_init_0 : decode cX2_init 0 = .ok (.aload_n 0, 1) := by decide +kernel
theorem dX2_init_1 : decode cX2_init 1 = .ok (.invokespecial 3, 3) := by decide +kernel
theorem dX2_init_4 : decode cX2_init 4 = .ok (.aload_n 0, 1) := by decide +kernel
theorem dX2_init_5 : decode cX2_init 5 = .ok (.bipush 6, 2) := by decide +kernel
theorem dX2_init_7 : decode cX2_init 7 = .ok (.newarray .int, 2) := by decide +kernel
theorem dX2_init_9 : decode cX2_init 9 = .ok (.putfield 9, 3) := by decide +kernel
theorem dX2_init_12 : decode cX2_init 12 = .ok (.aload_n 0, 1) := by decide +kernel
theorem dX2_init_13 : decode cX2_init 13 = .ok (.bipush 6, 2) := by decide +kernel
theorem dX2_init_15 : decode cX2_init 15 = .ok (.newarray .int, 2) := by decide +kernel
theorem dX2_init_17 : decode cX2_init 17 = .ok (.putfield 15, 3) := by decide +kernel
theorem dX2_init_20 : decode cX2_init 20 = .ok (.aload_n 0, 1) := by decide +kernel
theorem dX2_init_21 : decode cX2_init 21 = .ok (.iconst 0, 1) := by decide +kernel
theorem dX2_init_22 : decode cX2_init 22 = .ok (.putfield 18, 3) := by decide +kernel
theorem dX2_init_25 : decode cX2_init 25 = .ok (.return_, 1) := by decide +kernel
theorem dX2_clear_0 : decode cX2_clear 0 = .ok (.aload_n 0, 1) := by decide +kernel
theorem dX2_clear_1 : decode cX2_clear 1 = .ok (.iconst 0, 1) := by decide +kernel
theorem dX2_clear_2 : decode cX2_clear 2 = .ok (.putfield 18, 3) := by decide +kernel
theorem dX2_clear_5 : decode cX2_clear 5 = .ok (.return_, 1) := by decide +kernel
theorem dX2_copyFrom_0 : decode cX2_copyFrom 0 = .ok (.iconst 0, 1) := by decide +kernel
theorem dX2_copyFrom_1 : decode cX2_copyFrom 1 = .ok (.istore_n 2, 1) := by decide +kernel
theorem dX2_copyFrom_2 : decode cX2_copyFrom 2 = .ok (.iload_n 2, 1) := by decide +kernel
theorem dX2_copyFrom_3 : decode cX2_copyFrom 3 = .ok (.bipush 6, 2) := by decide +kernel
theorem dX2_copyFrom_5 : decode cX2_copyFrom 5 = .ok (.if_icmp .ge 33, 3) := by decide +kernel
theorem dX2_copyFrom_8 : decode cX2_copyFrom 8 = .ok (.aload_n 0, 1) := by decide +kernel
theorem dX2_copyFrom_9 : decode cX2_copyFrom 9 = .ok (.getfield 9, 3) := by decide +kernel
theorem dX2_copyFrom_12 : decode cX2_copyFrom 12 = .ok (.iload_n 2, 1) := by decide +kernel
theorem dX2_copyFrom_13 : decode cX2_copyFrom 13 = .ok (.aload_n 1, 1) := by decide +kernel
theorem dX2_copyFrom_14 : decode cX2_copyFrom 14 = .ok (.getfield 9, 3) := by decide +kernel
theorem dX2_copyFrom_17 : decode cX2_copyFrom 17 = .ok (.iload_n 2, 1) := by decide +kernel
theorem dX2_copyFrom_18 : decode cX2_copyFrom 18 = .ok (.iaload, 1) := by decide +kernel
theorem dX2_copyFrom_19 : decode cX2_copyFrom 19 = .ok (.iastore, 1) := by decide +kernel
theorem dX2_copyFrom_20 : decode cX2_copyFrom 20 = .ok (.aload_n 0, 1) := by decide +kernel
theorem dX2_copyFrom_21 : decode cX2_copyFrom 21 = .ok (.getfield 15, 3) := by decide +kernel
theorem dX2_copyFrom_24 : decode cX2_copyFrom 24 = .ok (.iload_n 2, 1) := by decide +kernel
theorem dX2_copyFrom_25 : decode cX2_copyFrom 25 = .ok (.aload_n 1, 1) := by decide +kernel
theorem dX2_copyFrom_26 : decode cX2_copyFrom 26 = .ok (.getfield 15, 3) := by decide +kernel
theorem dX2_copyFrom_29 : decode cX2_copyFrom 29 = .ok (.iload_n 2, 1) := by decide +kernel
theorem dX2_copyFrom_30 : decode cX2_copyFrom 30 = .ok (.iaload, 1) := by decide +kernel
theorem dX2_copyFrom_31 : decode cX2_copyFrom 31 = .ok (.iastore, 1) := by decide +kernel
theorem dX2_copyFrom_32 : decode cX2_copyFrom 32 = .ok (.iinc 2 1, 3) := by decide +kernel
theorem dX2_copyFrom_35 : decode cX2_copyFrom 35 = .ok (.goto (-33), 3) := by decide +kernel
theorem dX2_copyFrom_38 : decode cX2_copyFrom 38 = .ok (.aload_n 0, 1) := by decide +kernel
theorem dX2_copyFrom_39 : decode cX2_copyFrom 39 = .ok (.aload_n 1, 1) := by decide +kernel
theorem dX2_copyFrom_40 : decode cX2_copyFrom 40 = .ok (.getfield 18, 3) := by decide +kernel
theorem dX2_copyFrom_43 : decode cX2_copyFrom 43 = .ok (.putfield 18, 3) := by decide +kernel
theorem dX2_copyFrom_46 : decode cX2_copyFrom 46 = .ok (.return_, 1) := by decide +kernel
theorem dX2_size_0 : decode cX2_size 0 = .ok (.aload_n 0, 1) := by decide +kernel
theorem dX2_size_1 : decode cX2_size 1 = .ok (.getfield 18, 3) := by decide +kernel
theorem dX2_size_4 : decode cX2_size 4 = .ok (.ireturn, 1) := by decide +kernel
theorem dX2_server_0 : decode cX2_server 0 = .ok (.iconst 0, 1) := by decide +kernel
theorem dX2_server_1 : decode cX2_server 1 = .ok (.istore_n 2, 1) := by decide +kernel
theorem dX2_server_2 : decode cX2_server 2 = .ok (.iload_n 2, 1) := by decide +kernel
theorem dX2_server_3 : decode cX2_server 3 = .ok (.aload_n 0, 1) := by decide +kernel
theorem dX2_server_4 : decode cX2_server 4 = .ok (.getfield 18, 3) := by decide +kernel
theorem dX2_server_7 : decode cX2_server 7 = .ok (.if_icmp .ge 32, 3) := by decide +kernel
theorem dX2_server_10 : decode cX2_server 10 = .ok (.iload_n 2, 1) := by decide +kernel
theorem dX2_server_11 : decode cX2_server 11 = .ok (.bipush 6, 2) := by decide +kernel
theorem dX2_server_13 : decode cX2_server 13 = .ok (.if_icmp .ge 26, 3) := by decide +kernel
theorem dX2_server_16 : decode cX2_server 16 = .ok (.aload_n 0, 1) := by decide +kernel
theorem dX2_server_17 : decode cX2_server 17 = .ok (.getfield 9, 3) := by decide +kernel
theorem dX2_server_20 : decode cX2_server 20 = .ok (.iload_n 2, 1) := by decide +kernel
theorem dX2_server_21 : decode cX2_server 21 = .ok (.iaload, 1) := by decide +kernel
theorem dX2_server_22 : decode cX2_server 22 = .ok (.iload_n 1, 1) := by decide +kernel
theorem dX2_server_23 : decode cX2_server 23 = .ok (.if_icmp .ne 10, 3) := by decide +kernel
theorem dX2_server_26 : decode cX2_server 26 = .ok (.aload_n 0, 1) := by decide +kernel
theorem dX2_server_27 : decode cX2_server 27 = .ok (.getfield 15, 3) := by decide +kernel
theorem dX2_server_30 : decode cX2_server 30 = .ok (.iload_n 2, 1) := by decide +kernel
theorem dX2_server_31 : decode cX2_server 31 = .ok (.iaload, 1) := by decide +kernel
theorem dX2_server_32 : decode cX2_server 32 = .ok (.ireturn, 1) := by decide +kernel
theorem dX2_server_33 : decode cX2_server 33 = .ok (.iinc 2 1, 3) := by decide +kernel
theorem dX2_server_36 : decode cX2_server 36 = .ok (.goto (-34), 3) := by decide +kernel
theorem dX2_server_39 : decode cX2_server 39 = .ok (.iconst (-1), 1) := by decide +kernel
theorem dX2_server_40 : decode cX2_server 40 = .ok (.ireturn, 1) := by decide +kernel
theorem dX2_put_0 : decode cX2_put 0 = .ok (.aload_n 0, 1) := by decide +kernel
theorem dX2_put_1 : decode cX2_put 1 = .ok (.iload_n 1, 1) := by decide +kernel
theorem dX2_put_2 : decode cX2_put 2 = .ok (.invokevirtual 22, 3) := by decide +kernel
theorem dX2_put_5 : decode cX2_put 5 = .ok (.aload_n 0, 1) := by decide +kernel
theorem dX2_put_6 : decode cX2_put 6 = .ok (.iload_n 1, 1) := by decide +kernel
theorem dX2_put_7 : decode cX2_put 7 = .ok (.iload_n 2, 1) := by decide +kernel
theorem dX2_put_8 : decode cX2_put 8 = .ok (.invokevirtual 26, 3) := by decide +kernel
theorem dX2_put_11 : decode cX2_put 11 = .ok (.return_, 1) := by decide +kernel
theorem dX2_drop_0 : decode cX2_drop 0 = .ok (.aload_n 0, 1) := by decide +kernel
theorem dX2_drop_1 : decode cX2_drop 1 = .ok (.getfield 18, 3) := by decide +kernel
theorem dX2_drop_4 : decode cX2_drop 4 = .ok (.istore_n 2, 1) := by decide +kernel
theorem dX2_drop_5 : decode cX2_drop 5 = .ok (.aload_n 0, 1) := by decide +kernel
theorem dX2_drop_6 : decode cX2_drop 6 = .ok (.iconst 0, 1) := by decide +kernel
theorem dX2_drop_7 : decode cX2_drop 7 = .ok (.putfield 18, 3) := by decide +kernel
theorem dX2_drop_10 : decode cX2_drop 10 = .ok (.iconst 0, 1) := by decide +kernel
theorem dX2_drop_11 : decode cX2_drop 11 = .ok (.istore_n 3, 1) := by decide +kernel
theorem dX2_drop_12 : decode cX2_drop 12 = .ok (.iload_n 3, 1) := by decide +kernel
theorem dX2_drop_13 : decode cX2_drop 13 = .ok (.iload_n 2, 1) := by decide +kernel
theorem dX2_drop_14 : decode cX2_drop 14 = .ok (.if_icmp .ge 41, 3) := by decide +kernel
theorem dX2_drop_17 : decode cX2_drop 17 = .ok (.iload_n 3, 1) := by decide +kernel
theorem dX2_drop_18 : decode cX2_drop 18 = .ok (.bipush 6, 2) := by decide +kernel
theorem dX2_drop_20 : decode cX2_drop 20 = .ok (.if_icmp .ge 35, 3) := by decide +kernel
theorem dX2_drop_23 : decode cX2_drop 23 = .ok (.aload_n 0, 1) := by decide +kernel
theorem dX2_drop_24 : decode cX2_drop 24 = .ok (.getfield 9, 3) := by decide +kernel
theorem dX2_drop_27 : decode cX2_drop 27 = .ok (.iload_n 3, 1) := by decide +kernel
theorem dX2_drop_28 : decode cX2_drop 28 = .ok (.iaload, 1) := by decide +kernel
theorem dX2_drop_29 : decode cX2_drop 29 = .ok (.iload_n 1, 1) := by decide +kernel
theorem dX2_drop_30 : decode cX2_drop 30 = .ok (.if_icmp .eq 19, 3) := by decide +kernel
theorem dX2_drop_33 : decode cX2_drop 33 = .ok (.aload_n 0, 1) := by decide +kernel
theorem dX2_drop_34 : decode cX2_drop 34 = .ok (.aload_n 0, 1) := by decide +kernel
theorem dX2_drop_35 : decode cX2_drop 35 = .ok (.getfield 9, 3) := by decide +kernel
theorem dX2_drop_38 : decode cX2_drop 38 = .ok (.iload_n 3, 1) := by decide +kernel
theorem dX2_drop_39 : decode cX2_drop 39 = .ok (.iaload, 1) := by decide +kernel
theorem dX2_drop_40 : decode cX2_drop 40 = .ok (.aload_n 0, 1) := by decide +kernel
theorem dX2_drop_41 : decode cX2_drop 41 = .ok (.getfield 15, 3) := by decide +kernel
theorem dX2_drop_44 : decode cX2_drop 44 = .ok (.iload_n 3, 1) := by decide +kernel
theorem dX2_drop_45 : decode cX2_drop 45 = .ok (.iaload, 1) := by decide +kernel
theorem dX2_drop_46 : decode cX2_drop 46 = .ok (.invokevirtual 26, 3) := by decide +kernel
theorem dX2_drop_49 : decode cX2_drop 49 = .ok (.iinc 3 1, 3) := by decide +kernel
theorem dX2_drop_52 : decode cX2_drop 52 = .ok (.goto (-40), 3) := by decide +kernel
theorem dX2_drop_55 : decode cX2_drop 55 = .ok (.return_, 1) := by decide +kernel
theorem dX2_dropServer_0 : decode cX2_dropServer 0 = .ok (.aload_n 0, 1) := by decide +kernel
theorem dX2_dropServer_1 : decode cX2_dropServer 1 = .ok (.getfield 18, 3) := by decide +kernel
theorem dX2_dropServer_4 : decode cX2_dropServer 4 = .ok (.istore_n 2, 1) := by decide +kernel
theorem dX2_dropServer_5 : decode cX2_dropServer 5 = .ok (.aload_n 0, 1) := by decide +kernel
theorem dX2_dropServer_6 : decode cX2_dropServer 6 = .ok (.iconst 0, 1) := by decide +kernel
theorem dX2_dropServer_7 : decode cX2_dropServer 7 = .ok (.putfield 18, 3) := by decide +kernel
theorem dX2_dropServer_10 : decode cX2_dropServer 10 = .ok (.iconst 0, 1) := by decide +kernel
theorem dX2_dropServer_11 : decode cX2_dropServer 11 = .ok (.istore_n 3, 1) := by decide +kernel
theorem dX2_dropServer_12 : decode cX2_dropServer 12 = .ok (.iload_n 3, 1) := by decide +kernel
theorem dX2_dropServer_13 : decode cX2_dropServer 13 = .ok (.iload_n 2, 1) := by decide +kernel
theorem dX2_dropServer_14 : decode cX2_dropServer 14 = .ok (.if_icmp .ge 41, 3) := by decide +kernel
theorem dX2_dropServer_17 : decode cX2_dropServer 17 = .ok (.iload_n 3, 1) := by decide +kernel
theorem dX2_dropServer_18 : decode cX2_dropServer 18 = .ok (.bipush 6, 2) := by decide +kernel
theorem dX2_dropServer_20 : decode cX2_dropServer 20 = .ok (.if_icmp .ge 35, 3) := by decide +kernel
theorem dX2_dropServer_23 : decode cX2_dropServer 23 = .ok (.aload_n 0, 1) := by decide +kernel
theorem dX2_dropServer_24 : decode cX2_dropServer 24 = .ok (.getfield 15, 3) := by decide +kernel
theorem dX2_dropServer_27 : decode cX2_dropServer 27 = .ok (.iload_n 3, 1) := by decide +kernel
theorem dX2_dropServer_28 : decode cX2_dropServer 28 = .ok (.iaload, 1) := by decide +kernel
theorem dX2_dropServer_29 : decode cX2_dropServer 29 = .ok (.iload_n 1, 1) := by decide +kernel
theorem dX2_dropServer_30 : decode cX2_dropServer 30 = .ok (.if_icmp .eq 19, 3) := by decide +kernel
theorem dX2_dropServer_33 : decode cX2_dropServer 33 = .ok (.aload_n 0, 1) := by decide +kernel
theorem dX2_dropServer_34 : decode cX2_dropServer 34 = .ok (.aload_n 0, 1) := by decide +kernel
theorem dX2_dropServer_35 : decode cX2_dropServer 35 = .ok (.getfield 9, 3) := by decide +kernel
theorem dX2_dropServer_38 : decode cX2_dropServer 38 = .ok (.iload_n 3, 1) := by decide +kernel
theorem dX2_dropServer_39 : decode cX2_dropServer 39 = .ok (.iaload, 1) := by decide +kernel
theorem dX2_dropServer_40 : decode cX2_dropServer 40 = .ok (.aload_n 0, 1) := by decide +kernel
theorem dX2_dropServer_41 : decode cX2_dropServer 41 = .ok (.getfield 15, 3) := by decide +kernel
theorem dX2_dropServer_44 : decode cX2_dropServer 44 = .ok (.iload_n 3, 1) := by decide +kernel
theorem dX2_dropServer_45 : decode cX2_dropServer 45 = .ok (.iaload, 1) := by decide +kernel
theorem dX2_dropServer_46 : decode cX2_dropServer 46 = .ok (.invokevirtual 26, 3) := by decide +kernel
theorem dX2_dropServer_49 : decode cX2_dropServer 49 = .ok (.iinc 3 1, 3) := by decide +kernel
theorem dX2_dropServer_52 : decode cX2_dropServer 52 = .ok (.goto (-40), 3) := by decide +kernel
theorem dX2_dropServer_55 : decode cX2_dropServer 55 = .ok (.return_, 1) := by decide +kernel
theorem dX2_append_0 : decode cX2_append 0 = .ok (.aload_n 0, 1) := by decide +kernel
theorem dX2_append_1 : decode cX2_append 1 = .ok (.getfield 18, 3) := by decide +kernel
theorem dX2_append_4 : decode cX2_append 4 = .ok (.ifCond .lt 42, 3) := by decide +kernel
theorem dX2_append_7 : decode cX2_append 7 = .ok (.aload_n 0, 1) := by decide +kernel
theorem dX2_append_8 : decode cX2_append 8 = .ok (.getfield 18, 3) := by decide +kernel
theorem dX2_append_11 : decode cX2_append 11 = .ok (.bipush 6, 2) := by decide +kernel
theorem dX2_append_13 : decode cX2_append 13 = .ok (.if_icmp .ge 33, 3) := by decide +kernel
theorem dX2_append_16 : decode cX2_append 16 = .ok (.aload_n 0, 1) := by decide +kernel
theorem dX2_append_17 : decode cX2_append 17 = .ok (.getfield 9, 3) := by decide +kernel
theorem dX2_append_20 : decode cX2_append 20 = .ok (.aload_n 0, 1) := by decide +kernel
theorem dX2_append_21 : decode cX2_append 21 = .ok (.getfield 18, 3) := by decide +kernel
theorem dX2_append_24 : decode cX2_append 24 = .ok (.iload_n 1, 1) := by decide +kernel
theorem dX2_append_25 : decode cX2_append 25 = .ok (.iastore, 1) := by decide +kernel
theorem dX2_append_26 : decode cX2_append 26 = .ok (.aload_n 0, 1) := by decide +kernel
theorem dX2_append_27 : decode cX2_append 27 = .ok (.getfield 15, 3) := by decide +kernel
theorem dX2_append_30 : decode cX2_append 30 = .ok (.aload_n 0, 1) := by decide +kernel
theorem dX2_append_31 : decode cX2_append 31 = .ok (.getfield 18, 3) := by decide +kernel
theorem dX2_append_34 : decode cX2_append 34 = .ok (.iload_n 2, 1) := by decide +kernel
theorem dX2_append_35 : decode cX2_append 35 = .ok (.iastore, 1) := by decide +kernel
theorem dX2_append_36 : decode cX2_append 36 = .ok (.aload_n 0, 1) := by decide +kernel
theorem dX2_append_37 : decode cX2_append 37 = .ok (.dup, 1) := by decide +kernel
theorem dX2_append_38 : decode cX2_append 38 = .ok (.getfield 18, 3) := by decide +kernel
theorem dX2_append_41 : decode cX2_append 41 = .ok (.iconst 1, 1) := by decide +kernel
theorem dX2_append_42 : decode cX2_append 42 = .ok (.iadd, 1) := by decide +kernel
theorem dX2_append_43 : decode cX2_append 43 = .ok (.putfield 18, 3) := by decide +kernel
theorem dX2_append_46 : decode cX2_append 46 = .ok (.return_, 1) := by decide +kernel
theorem k_X2_drop_26 : aKV mX2_drop mX2_append 26 2 2 := ⟨cb_X2_append, rfl, ml_X2_26, iv_X2_append, sl_X2_append, ⟨_, _, rfl⟩, ⟨Nat.le_of_ble_eq_true rfl, Nat.le_of_ble_eq_true rfl⟩⟩
theorem k_X2_dropServer_26 : aKV mX2_dropServer mX2_append 26 2 2 := ⟨cb_X2_append, rfl, ml_X2_26, iv_X2_append, sl_X2_append, ⟨_, _, rfl⟩, ⟨Nat.le_of_ble_eq_true rfl, Nat.le_of_ble_eq_true rfl⟩⟩
theorem k_X2_put_22 : aKV mX2_put mX2_drop 22 1 2 := ⟨cb_X2_drop, rfl, ml_X2_22, iv_X2_drop, sl_X2_drop, ⟨_, _, rfl⟩, ⟨Nat.le_of_ble_eq_true rfl, Nat.le_of_ble_eq_true rfl⟩⟩
theorem k_X2_put_26 : aKV mX2_put mX2_append 26 2 2 := ⟨cb_X2_append, rfl, ml_X2_26, iv_X2_append, sl_X2_append, ⟨_, _, rfl⟩, ⟨Nat.le_of_ble_eq_true rfl, Nat.le_of_ble_eq_true rfl⟩⟩
/-! ===== Pins ===== -/
/-- the first place that P takes -/
def aFo (P : Nat → Bool) : Nat → Nat → Option Nat
  | 0, _ => none
  | k + 1, j => if P j then some j else aFo P k (j + 1)
def oI (r : Option Nat) : Int32 := match r with
  | some i => nI i
  | none => -1
theorem aFd_o (P : Nat → Bool) : ∀ k j, aFd P k j = oI (aFo P k j)
  | 0, _ => rfl
  | k + 1, j => by
    show (if P j then nI j else aFd P k (j + 1)) = oI (if P j then some j else aFo P k (j + 1))
    by_cases h : P j = true
    · rw [if_pos h, if_pos h]; rfl
    · rw [if_neg h, if_neg h]; exact aFd_o P k (j + 1)
theorem aFo_some {P : Nat → Bool} : ∀ {k j i : Nat}, aFo P k j = some i → j ≤ i ∧ i < j + k ∧ P i = true
  | 0, j, i, h => by cases h
  | k + 1, j, i, h => by
    unfold aFo at h
    by_cases hp : P j = true
    · rw [if_pos hp] at h; cases h; exact ⟨Nat.le_refl _, by omega, hp⟩
    · rw [if_neg hp] at h
      obtain ⟨h1, h2, h3⟩ := aFo_some h
      exact ⟨by omega, by omega, h3⟩
theorem aFo_none {P : Nat → Bool} : ∀ {k j : Nat}, aFo P k j = none → ∀ i, j ≤ i → i < j + k → P i = false
  | 0, j, _, i, h1, h2 => by omega
  | k + 1, j, h, i, h1, h2 => by
    unfold aFo at h
    by_cases hp : P j = true
    · rw [if_pos hp] at h; cases h
    · rw [if_neg hp] at h
      rcases Nat.lt_or_ge j i with q | q
      · exact aFo_none h i (by omega) (by omega)
      · have : i = j := by omega
        subst this
        simpa using hp
theorem nI_m1 {j : Nat} (h : j < 2 ^ 31) : ¬ nI j = -1 := fun e => by
  have := nI_pos' h
  rw [e] at this
  exact absurd this (by decide)
abbrev aPn (pk ps : Nat → Int32) (m : Nat) : List aCell := [aOb 2 [.ref 1, .ref 2, .int (nI m)], aIa 6 pk, aIa 6 ps]
abbrev rs3 : List Nat := [0, 1, 2]
def pSv (pk ps : Nat → Int32) (key : Int32) (m : Nat) : Int32 := match aFo (fun j => decide (pk j = key)) m 0 with
  | some i => ps i
  | none => -1
abbrev pT : Type := (Nat → Int32) × (Nat → Int32) × Nat
def pAp (key sv : Int32) (σ : pT) : pT := (upd σ.1 σ.2.2 key, upd σ.2.1 σ.2.2 sv, σ.2.2 + 1)
def pSt (keep : Int32 → Int32 → Bool) (j : Nat) (σ : pT) : pT := if keep (σ.1 j) (σ.2.1 j) then pAp (σ.1 j) (σ.2.1 j) σ else σ
/-- those that keep takes, closed up -/
def pKe (keep : Int32 → Int32 → Bool) (pk ps : Nat → Int32) (m : Nat) : pT := aLp (pSt keep) m 0 (pk, ps, 0)
theorem pKe_le (keep : Int32 → Int32 → Bool) : ∀ (k j : Nat) (σ : pT), σ.2.2 ≤ j → (aLp (pSt keep) k j σ).2.2 ≤ j + k
  | 0, j, σ, h => h
  | k + 1, j, σ, h => by
    show (aLp (pSt keep) k (j + 1) (pSt keep j σ)).2.2 ≤ _
    have hh : (pSt keep j σ).2.2 ≤ j + 1 := by
      unfold pSt
      split
      · show σ.2.2 + 1 ≤ j + 1
        omega
      · omega
    have := pKe_le keep k (j + 1) (pSt keep j σ) hh
    omega
section PINS
variable {l : Launch} {X : aX} {pk ps : Nat → Int32} {m : Nat}
theorem ge6_f {j : Nat} (h : j < 6) : ¬ (6 : Int32) ≤ nI j := nI_ge (b := 6) h (by decide)
theorem in6 {j : Nat} (h : j < 6) : vp_in (nI j) 6 := vp_in_nI h (by decide)
theorem cl6 {j : Nat} (h : j < 6) : (nI j).toNatClampNeg = j := nI_clamp (by omega)
theorem c_X2_init : aWr l X mX2_init [0] [.ref 0] [aOb 2 [.null, .null, .int 0]] none (aPn (fun _ => 0) (fun _ => 0) 0) := by
  refine aMt.of (by decide) rfl (Nat.le_of_ble_eq_true rfl) ?_
  refine a_aload_n dX2_init_0 rfl ?_
  refine a_objInit ml_X2_3 oi_iv oi_cd dX2_init_1 (by decide) (Nat.le_of_ble_eq_true rfl) ?_
  refine a_aload_n dX2_init_4 rfl ?_
  refine a_bipush 6 dX2_init_5 (by decide) ?_
  refine a_newi 6 ar_int (by decide) (by decide) (by decide) dX2_init_7 rfl (by decide) (by decide) ?_
  refine a_putF fp_X2_9 rfl dX2_init_9 rfl (Nat.le_of_ble_eq_true rfl) (fun _ => ⟨rfl, rfl⟩) ?_
  refine a_aload_n dX2_init_12 rfl ?_
  refine a_bipush 6 dX2_init_13 (by decide) ?_
  refine a_newi 6 ar_int (by decide) (by decide) (by decide) dX2_init_15 rfl (by decide) (by decide) ?_
  refine a_putF fp_X2_15 rfl dX2_init_17 rfl (Nat.le_of_ble_eq_true rfl) (fun _ => ⟨rfl, rfl⟩) ?_
  refine a_aload_n dX2_init_20 rfl ?_
  refine a_iconst 0 dX2_init_21 (by decide) ?_
  refine a_put fp_X2_18 dX2_init_22 rfl (Nat.le_of_ble_eq_true rfl) (fun _ => ⟨rfl, rfl⟩) ?_
  refine a_vret rfl dX2_init_25 (by decide) (by decide) ?_
  exact ⟨rfl, rfl⟩
theorem c_X2_clear : aWr l X mX2_clear rs3 [.ref 0] (aPn pk ps m) none (aPn pk ps 0) := by
  refine aMt.of (by decide) rfl (Nat.le_of_ble_eq_true rfl) ?_
  refine a_aload_n dX2_clear_0 rfl ?_
  refine a_iconst 0 dX2_clear_1 (by decide) ?_
  refine a_put fp_X2_18 dX2_clear_2 rfl (Nat.le_of_ble_eq_true rfl) (fun _ => ⟨rfl, rfl⟩) ?_
  refine a_vret rfl dX2_clear_5 (by decide) (by decide) ?_
  exact ⟨rfl, rfl⟩
theorem c_X2_size : aRd l X mX2_size rs3 [.ref 0] (aPn pk ps m) (.int (nI m)) := by
  refine aMt.of (by decide) rfl (Nat.le_of_ble_eq_true rfl) ?_
  refine a_aload_n dX2_size_0 rfl ?_
  refine a_get fl_X2_18 dX2_size_1 rfl rfl ?_
  refine a_iret rfl dX2_size_4 (by decide) (by decide) ?_
  exact ⟨rfl, rfl⟩
theorem c_X2_server (hm : m ≤ 6) (key : Int32) : aRd l X mX2_server rs3 [.ref 0, .int key] (aPn pk ps m) (.int (pSv pk ps key m)) := by
  refine aMt.of (by decide) rfl (Nat.le_of_ble_eq_true rfl) ?_
  generalize hr : pSv pk ps key m = r
  refine a_iconst 0 dX2_server_0 (by decide) ?_
  refine a_istore_n dX2_server_1 (by decide) rfl ?_
  have lp : ∀ (k j : Nat), j + k = m → (match aFo (fun j => decide (pk j = key)) k j with | some i => ps i | none => -1) = r → aJ l X mX2_server (aEd X mX2_server rs3 (fun o h' => o = .inl (some (.int r)) ∧ h' = aPn pk ps m)) 0 0 2 [.ref 0, .int key, .int (nI j)] [] (aPn pk ps m) := by
    intro k
    induction k with
    | zero =>
      intro j hj hq
      obtain rfl : j = m := by omega
      refine a_iload_n dX2_server_2 rfl ?_
      refine a_aload_n dX2_server_3 rfl ?_
      refine a_get fl_X2_18 dX2_server_4 rfl rfl ?_
      refine a_icmp_ge 39 dX2_server_7 (by decide) (fun _ => ?_) (fun z => absurd (nI_le (Nat.le_refl j) (by omega)) z)
      refine a_iconst (-1) dX2_server_39 (by decide) ?_
      refine a_iret rfl dX2_server_40 (by decide) (by decide) ?_
      exact ⟨by rw [← hq]; rfl, rfl⟩
    | succ k ih =>
      intro j hj hq
      refine a_iload_n dX2_server_2 rfl ?_
      refine a_aload_n dX2_server_3 rfl ?_
      refine a_get fl_X2_18 dX2_server_4 rfl rfl ?_
      refine a_icmp_ge 39 dX2_server_7 (by decide) (fun z => absurd z (nI_ge (by omega) (by omega))) (fun _ => ?_)
      refine a_iload_n dX2_server_10 rfl ?_
      refine a_bipush 6 dX2_server_11 (by decide) ?_
      refine a_icmp_ge 39 dX2_server_13 (by decide) (fun z => absurd z (ge6_f (by omega))) (fun _ => ?_)
      refine a_aload_n dX2_server_16 rfl ?_
      refine a_get fl_X2_9 dX2_server_17 rfl rfl ?_
      refine a_iload_n dX2_server_20 rfl ?_
      refine a_iald dX2_server_21 rfl (in6 (by omega)) ?_
      refine a_iload_n dX2_server_22 rfl ?_
      refine a_icmp_ne 33 dX2_server_23 (by decide) (fun c23 => ?_) (fun c23 => ?_)
      · rw [cl6 (by omega)] at c23
        refine a_iinc (nI (j + 1)) dX2_server_33 rfl (nI_1 _) (by decide) rfl ?_
        refine a_goto 2 dX2_server_36 (by decide) ?_
        exact ih (j + 1) (by omega) (by rw [← hq]; simp [aFo, c23])
      · rw [cl6 (by omega)] at c23
        refine a_aload_n dX2_server_26 rfl ?_
        refine a_get fl_X2_15 dX2_server_27 rfl rfl ?_
        refine a_iload_n dX2_server_30 rfl ?_
        refine a_iald dX2_server_31 rfl (in6 (by omega)) ?_
        refine a_iret rfl dX2_server_32 (by decide) (by decide) ?_
        rw [cl6 (by omega)]
        exact ⟨by rw [← hq]; simp [aFo, c23], rfl⟩
  exact lp m 0 (by omega) hr
theorem c_X2_append (hm : m < 6) (key sv : Int32) : aWr l X mX2_append rs3 [.ref 0, .int key, .int sv] (aPn pk ps m) none (aPn (upd pk m key) (upd ps m sv) (m + 1)) := by
  refine aMt.of (by decide) rfl (Nat.le_of_ble_eq_true rfl) ?_
  have hi : vp_in (nI m) 6 := in6 hm
  refine a_aload_n dX2_append_0 rfl ?_
  refine a_get fl_X2_18 dX2_append_1 rfl rfl ?_
  refine a_if_lt 46 dX2_append_4 (by decide) (fun z => absurd z (nI_pos (by omega))) (fun _ => ?_)
  refine a_aload_n dX2_append_7 rfl ?_
  refine a_get fl_X2_18 dX2_append_8 rfl rfl ?_
  refine a_bipush 6 dX2_append_11 (by decide) ?_
  refine a_icmp_ge 46 dX2_append_13 (by decide) (fun z => absurd z (ge6_f hm)) (fun _ => ?_)
  refine a_aload_n dX2_append_16 rfl ?_
  refine a_get fl_X2_9 dX2_append_17 rfl rfl ?_
  refine a_aload_n dX2_append_20 rfl ?_
  refine a_get fl_X2_18 dX2_append_21 rfl rfl ?_
  refine a_iload_n dX2_append_24 rfl ?_
  refine a_iast dX2_append_25 rfl (by assumption) ?_
  refine a_aload_n dX2_append_26 rfl ?_
  refine a_get fl_X2_15 dX2_append_27 rfl rfl ?_
  refine a_aload_n dX2_append_30 rfl ?_
  refine a_get fl_X2_18 dX2_append_31 rfl rfl ?_
  refine a_iload_n dX2_append_34 rfl ?_
  refine a_iast dX2_append_35 rfl (by assumption) ?_
  refine a_aload_n dX2_append_36 rfl ?_
  refine a_dup dX2_append_37 rfl ?_
  refine a_get fl_X2_18 dX2_append_38 rfl rfl ?_
  refine a_iconst 1 dX2_append_41 (by decide) ?_
  refine a_iadd dX2_append_42 ?_
  refine a_put fp_X2_18 dX2_append_43 rfl (Nat.le_of_ble_eq_true rfl) (fun _ => ⟨rfl, rfl⟩) ?_
  refine a_vret rfl dX2_append_46 (by decide) (by decide) ?_
  refine ⟨rfl, ?_⟩
  rw [cl6 hm, nI_1]
  rfl
theorem c_X2_drop (hm : m ≤ 6) (key : Int32) : aWr l X mX2_drop rs3 [.ref 0, .int key] (aPn pk ps m) none (aPn (pKe (fun k _ => decide (¬ k = key)) pk ps m).1 (pKe (fun k _ => decide (¬ k = key)) pk ps m).2.1 (pKe (fun k _ => decide (¬ k = key)) pk ps m).2.2) := by
  refine aMt.of (by decide) rfl (Nat.le_of_ble_eq_true rfl) ?_
  generalize hr : pKe (fun k _ => decide (¬ k = key)) pk ps m = r
  refine a_aload_n dX2_drop_0 rfl ?_
  refine a_get fl_X2_18 dX2_drop_1 rfl rfl ?_
  refine a_istore_n dX2_drop_4 (by decide) rfl ?_
  refine a_aload_n dX2_drop_5 rfl ?_
  refine a_iconst 0 dX2_drop_6 (by decide) ?_
  refine a_put fp_X2_18 dX2_drop_7 rfl (Nat.le_of_ble_eq_true rfl) (fun _ => ⟨rfl, rfl⟩) ?_
  refine a_iconst 0 dX2_drop_10 (by decide) ?_
  refine a_istore_n dX2_drop_11 (by decide) rfl ?_
  have lp : ∀ (k j : Nat) (σ : pT), j + k = m → σ.2.2 ≤ j → aLp (pSt (fun k _ => decide (¬ k = key))) k j σ = r → aJ l X mX2_drop (aEd X mX2_drop rs3 (fun o h' => o = .inl none ∧ h' = aPn r.1 r.2.1 r.2.2)) 0 0 12 [.ref 0, .int key, .int (nI m), .int (nI j)] [] (aPn σ.1 σ.2.1 σ.2.2) := by
    intro k
    induction k with
    | zero =>
      intro j σ hj hc hq
      obtain rfl : j = m := by omega
      refine a_iload_n dX2_drop_12 rfl ?_
      refine a_iload_n dX2_drop_13 rfl ?_
      refine a_icmp_ge 55 dX2_drop_14 (by decide) (fun _ => ?_) (fun z => absurd (nI_le (Nat.le_refl j) (by omega)) z)
      refine a_vret rfl dX2_drop_55 (by decide) (by decide) ?_
      exact ⟨rfl, by rw [← hq]; rfl⟩
    | succ k ih =>
      intro j σ hj hc hq
      have hi : vp_in (nI j) 6 := in6 (by omega)
      refine a_iload_n dX2_drop_12 rfl ?_
      refine a_iload_n dX2_drop_13 rfl ?_
      refine a_icmp_ge 55 dX2_drop_14 (by decide) (fun z => absurd z (nI_ge (by omega) (by omega))) (fun _ => ?_)
      refine a_iload_n dX2_drop_17 rfl ?_
      refine a_bipush 6 dX2_drop_18 (by decide) ?_
      refine a_icmp_ge 55 dX2_drop_20 (by decide) (fun z => absurd z (ge6_f (by omega))) (fun _ => ?_)
      refine a_aload_n dX2_drop_23 rfl ?_
      refine a_get fl_X2_9 dX2_drop_24 rfl rfl ?_
      refine a_iload_n dX2_drop_27 rfl ?_
      refine a_iald dX2_drop_28 rfl (by assumption) ?_
      refine a_iload_n dX2_drop_29 rfl ?_
      refine a_icmp_eq 49 dX2_drop_30 (by decide) (fun c30 => ?_) (fun c30 => ?_)
      · rw [cl6 (by omega)] at c30
        refine a_iinc (nI (j + 1)) dX2_drop_49 rfl (nI_1 _) (by decide) rfl ?_
        refine a_goto 12 dX2_drop_52 (by decide) ?_
        exact ih (j + 1) σ (by omega) (by omega) (by rw [← hq]; simp [aLp, pSt, c30])
      · rw [cl6 (by omega)] at c30
        refine a_aload_n dX2_drop_33 rfl ?_
        refine a_aload_n dX2_drop_34 rfl ?_
        refine a_get fl_X2_9 dX2_drop_35 rfl rfl ?_
        refine a_iload_n dX2_drop_38 rfl ?_
        refine a_iald dX2_drop_39 rfl (by assumption) ?_
        refine a_aload_n dX2_drop_40 rfl ?_
        refine a_get fl_X2_15 dX2_drop_41 rfl rfl ?_
        refine a_iload_n dX2_drop_44 rfl ?_
        refine a_iald dX2_drop_45 rfl (by assumption) ?_
        refine a_VvW [0, 1, 2] (aPn (upd σ.1 σ.2.2 (σ.1 (nI j).toNatClampNeg)) (upd σ.2.1 σ.2.2 (σ.2.1 (nI j).toNatClampNeg)) (σ.2.2 + 1)) k_X2_drop_26 (c_X2_append (by omega) _ _) dX2_drop_46 rfl rfl rfl rfl rfl rfl (Nat.le_of_ble_eq_true rfl) ⟨Nat.le_of_ble_eq_true rfl, Nat.le_of_ble_eq_true rfl⟩ ⟨rfl, rfl⟩ (Nat.le_of_ble_eq_true rfl) rfl ?_
        refine a_iinc (nI (j + 1)) dX2_drop_49 rfl (nI_1 _) (by decide) rfl ?_
        refine a_goto 12 dX2_drop_52 (by decide) ?_
        rw [cl6 (by omega)]
        exact ih (j + 1) (pAp (σ.1 j) (σ.2.1 j) σ) (by omega) (by show σ.2.2 + 1 ≤ j + 1; omega) (by rw [← hq]; simp [aLp, pSt, c30])
  exact lp m 0 (pk, ps, 0) (by omega) (Nat.le_refl _) hr
theorem c_X2_dropServer (hm : m ≤ 6) (key : Int32) : aWr l X mX2_dropServer rs3 [.ref 0, .int key] (aPn pk ps m) none (aPn (pKe (fun _ k => decide (¬ k = key)) pk ps m).1 (pKe (fun _ k => decide (¬ k = key)) pk ps m).2.1 (pKe (fun _ k => decide (¬ k = key)) pk ps m).2.2) := by
  refine aMt.of (by decide) rfl (Nat.le_of_ble_eq_true rfl) ?_
  generalize hr : pKe (fun _ k => decide (¬ k = key)) pk ps m = r
  refine a_aload_n dX2_dropServer_0 rfl ?_
  refine a_get fl_X2_18 dX2_dropServer_1 rfl rfl ?_
  refine a_istore_n dX2_dropServer_4 (by decide) rfl ?_
  refine a_aload_n dX2_dropServer_5 rfl ?_
  refine a_iconst 0 dX2_dropServer_6 (by decide) ?_
  refine a_put fp_X2_18 dX2_dropServer_7 rfl (Nat.le_of_ble_eq_true rfl) (fun _ => ⟨rfl, rfl⟩) ?_
  refine a_iconst 0 dX2_dropServer_10 (by decide) ?_
  refine a_istore_n dX2_dropServer_11 (by decide) rfl ?_
  have lp : ∀ (k j : Nat) (σ : pT), j + k = m → σ.2.2 ≤ j → aLp (pSt (fun _ k => decide (¬ k = key))) k j σ = r → aJ l X mX2_dropServer (aEd X mX2_dropServer rs3 (fun o h' => o = .inl none ∧ h' = aPn r.1 r.2.1 r.2.2)) 0 0 12 [.ref 0, .int key, .int (nI m), .int (nI j)] [] (aPn σ.1 σ.2.1 σ.2.2) := by
    intro k
    induction k with
    | zero =>
      intro j σ hj hc hq
      obtain rfl : j = m := by omega
      refine a_iload_n dX2_dropServer_12 rfl ?_
      refine a_iload_n dX2_dropServer_13 rfl ?_
      refine a_icmp_ge 55 dX2_dropServer_14 (by decide) (fun _ => ?_) (fun z => absurd (nI_le (Nat.le_refl j) (by omega)) z)
      refine a_vret rfl dX2_dropServer_55 (by decide) (by decide) ?_
      exact ⟨rfl, by rw [← hq]; rfl⟩
    | succ k ih =>
      intro j σ hj hc hq
      have hi : vp_in (nI j) 6 := in6 (by omega)
      refine a_iload_n dX2_dropServer_12 rfl ?_
      refine a_iload_n dX2_dropServer_13 rfl ?_
      refine a_icmp_ge 55 dX2_dropServer_14 (by decide) (fun z => absurd z (nI_ge (by omega) (by omega))) (fun _ => ?_)
      refine a_iload_n dX2_dropServer_17 rfl ?_
      refine a_bipush 6 dX2_dropServer_18 (by decide) ?_
      refine a_icmp_ge 55 dX2_dropServer_20 (by decide) (fun z => absurd z (ge6_f (by omega))) (fun _ => ?_)
      refine a_aload_n dX2_dropServer_23 rfl ?_
      refine a_get fl_X2_15 dX2_dropServer_24 rfl rfl ?_
      refine a_iload_n dX2_dropServer_27 rfl ?_
      refine a_iald dX2_dropServer_28 rfl (by assumption) ?_
      refine a_iload_n dX2_dropServer_29 rfl ?_
      refine a_icmp_eq 49 dX2_dropServer_30 (by decide) (fun c30 => ?_) (fun c30 => ?_)
      · rw [cl6 (by omega)] at c30
        refine a_iinc (nI (j + 1)) dX2_dropServer_49 rfl (nI_1 _) (by decide) rfl ?_
        refine a_goto 12 dX2_dropServer_52 (by decide) ?_
        exact ih (j + 1) σ (by omega) (by omega) (by rw [← hq]; simp [aLp, pSt, c30])
      · rw [cl6 (by omega)] at c30
        refine a_aload_n dX2_dropServer_33 rfl ?_
        refine a_aload_n dX2_dropServer_34 rfl ?_
        refine a_get fl_X2_9 dX2_dropServer_35 rfl rfl ?_
        refine a_iload_n dX2_dropServer_38 rfl ?_
        refine a_iald dX2_dropServer_39 rfl (by assumption) ?_
        refine a_aload_n dX2_dropServer_40 rfl ?_
        refine a_get fl_X2_15 dX2_dropServer_41 rfl rfl ?_
        refine a_iload_n dX2_dropServer_44 rfl ?_
        refine a_iald dX2_dropServer_45 rfl (by assumption) ?_
        refine a_VvW [0, 1, 2] (aPn (upd σ.1 σ.2.2 (σ.1 (nI j).toNatClampNeg)) (upd σ.2.1 σ.2.2 (σ.2.1 (nI j).toNatClampNeg)) (σ.2.2 + 1)) k_X2_dropServer_26 (c_X2_append (by omega) _ _) dX2_dropServer_46 rfl rfl rfl rfl rfl rfl (Nat.le_of_ble_eq_true rfl) ⟨Nat.le_of_ble_eq_true rfl, Nat.le_of_ble_eq_true rfl⟩ ⟨rfl, rfl⟩ (Nat.le_of_ble_eq_true rfl) rfl ?_
        refine a_iinc (nI (j + 1)) dX2_dropServer_49 rfl (nI_1 _) (by decide) rfl ?_
        refine a_goto 12 dX2_dropServer_52 (by decide) ?_
        rw [cl6 (by omega)]
        exact ih (j + 1) (pAp (σ.1 j) (σ.2.1 j) σ) (by omega) (by show σ.2.2 + 1 ≤ j + 1; omega) (by rw [← hq]; simp [aLp, pSt, c30])
  exact lp m 0 (pk, ps, 0) (by omega) (Nat.le_refl _) hr
theorem c_X2_put (hm : m ≤ 6) (key sv : Int32) (hc : (pKe (fun k _ => decide (¬ k = key)) pk ps m).2.2 < 6) : aWr l X mX2_put rs3 [.ref 0, .int key, .int sv] (aPn pk ps m) none (aPn (pAp key sv (pKe (fun k _ => decide (¬ k = key)) pk ps m)).1 (pAp key sv (pKe (fun k _ => decide (¬ k = key)) pk ps m)).2.1 (pAp key sv (pKe (fun k _ => decide (¬ k = key)) pk ps m)).2.2) := by
  refine aMt.of (by decide) rfl (Nat.le_of_ble_eq_true rfl) ?_
  generalize hr : pKe (fun k _ => decide (¬ k = key)) pk ps m = r at hc
  have hdr := c_X2_drop (l := l) (X := X) (pk := pk) (ps := ps) hm key
  rw [hr] at hdr
  refine a_aload_n dX2_put_0 rfl ?_
  refine a_iload_n dX2_put_1 rfl ?_
  refine a_VvW [0, 1, 2] (aPn r.1 r.2.1 r.2.2) k_X2_put_22 (hdr) dX2_put_2 rfl rfl rfl rfl rfl rfl (Nat.le_of_ble_eq_true rfl) ⟨Nat.le_of_ble_eq_true rfl, Nat.le_of_ble_eq_true rfl⟩ ⟨rfl, rfl⟩ (Nat.le_of_ble_eq_true rfl) rfl ?_
  refine a_aload_n dX2_put_5 rfl ?_
  refine a_iload_n dX2_put_6 rfl ?_
  refine a_iload_n dX2_put_7 rfl ?_
  refine a_VvW [0, 1, 2] (aPn (pAp key sv r).1 (pAp key sv r).2.1 (pAp key sv r).2.2) k_X2_put_26 (c_X2_append (pk := r.1) (ps := r.2.1) hc key sv) dX2_put_8 rfl rfl rfl rfl rfl rfl (Nat.le_of_ble_eq_true rfl) ⟨Nat.le_of_ble_eq_true rfl, Nat.le_of_ble_eq_true rfl⟩ ⟨rfl, rfl⟩ (Nat.le_of_ble_eq_true rfl) rfl ?_
  refine a_vret rfl dX2_put_11 (by decide) (by decide) ?_
  exact ⟨rfl, rfl⟩
abbrev aPn2 (pk ps : Nat → Int32) (m : Nat) (pk2 ps2 : Nat → Int32) (m2 : Nat) : List aCell := [aOb 2 [.ref 1, .ref 2, .int (nI m)], aIa 6 pk, aIa 6 ps, aOb 2 [.ref 4, .ref 5, .int (nI m2)], aIa 6 pk2, aIa 6 ps2]
abbrev rs6 : List Nat := [0, 1, 2, 3, 4, 5]
theorem c_X2_copyFrom {pk2 ps2 : Nat → Int32} {m2 : Nat} : aWr l X mX2_copyFrom rs6 [.ref 0, .ref 3] (aPn2 pk ps m pk2 ps2 m2) none (aPn2 (fFl 6 pk2 pk) (fFl 6 ps2 ps) m2 pk2 ps2 m2) := by
  refine aMt.of (by decide) rfl (Nat.le_of_ble_eq_true rfl) ?_
  refine a_iconst 0 dX2_copyFrom_0 (by decide) ?_
  refine a_istore_n dX2_copyFrom_1 (by decide) rfl ?_
  have lp : ∀ (k j : Nat), j + k = 6 → aJ l X mX2_copyFrom (aEd X mX2_copyFrom rs6 (fun o h' => o = .inl none ∧ h' = aPn2 (fFl 6 pk2 pk) (fFl 6 ps2 ps) m2 pk2 ps2 m2)) 0 0 2 [.ref 0, .ref 3, .int (nI j)] [] (aPn2 (fFl j pk2 pk) (fFl j ps2 ps) m pk2 ps2 m2) := by
    intro k
    induction k with
    | zero =>
      intro j hj
      obtain rfl : j = 6 := by omega
      refine a_iload_n dX2_copyFrom_2 rfl ?_
      refine a_bipush 6 dX2_copyFrom_3 (by decide) ?_
      refine a_icmp_ge 38 dX2_copyFrom_5 (by decide) (fun _ => ?_) (fun z => absurd (by decide) z)
      refine a_aload_n dX2_copyFrom_38 rfl ?_
      refine a_aload_n dX2_copyFrom_39 rfl ?_
      refine a_get fl_X2_18 dX2_copyFrom_40 rfl rfl ?_
      refine a_put fp_X2_18 dX2_copyFrom_43 rfl (Nat.le_of_ble_eq_true rfl) (fun _ => ⟨rfl, rfl⟩) ?_
      refine a_vret rfl dX2_copyFrom_46 (by decide) (by decide) ?_
      exact ⟨rfl, rfl⟩
    | succ k ih =>
      intro j hj
      have hi : vp_in (nI j) 6 := in6 (by omega)
      refine a_iload_n dX2_copyFrom_2 rfl ?_
      refine a_bipush 6 dX2_copyFrom_3 (by decide) ?_
      refine a_icmp_ge 38 dX2_copyFrom_5 (by decide) (fun z => absurd z (ge6_f (by omega))) (fun _ => ?_)
      refine a_aload_n dX2_copyFrom_8 rfl ?_
      refine a_get fl_X2_9 dX2_copyFrom_9 rfl rfl ?_
      refine a_iload_n dX2_copyFrom_12 rfl ?_
      refine a_aload_n dX2_copyFrom_13 rfl ?_
      refine a_get fl_X2_9 dX2_copyFrom_14 rfl rfl ?_
      refine a_iload_n dX2_copyFrom_17 rfl ?_
      refine a_iald dX2_copyFrom_18 rfl (by assumption) ?_
      refine a_iast dX2_copyFrom_19 rfl (by assumption) ?_
      refine a_aload_n dX2_copyFrom_20 rfl ?_
      refine a_get fl_X2_15 dX2_copyFrom_21 rfl rfl ?_
      refine a_iload_n dX2_copyFrom_24 rfl ?_
      refine a_aload_n dX2_copyFrom_25 rfl ?_
      refine a_get fl_X2_15 dX2_copyFrom_26 rfl rfl ?_
      refine a_iload_n dX2_copyFrom_29 rfl ?_
      refine a_iald dX2_copyFrom_30 rfl (by assumption) ?_
      refine a_iast dX2_copyFrom_31 rfl (by assumption) ?_
      refine a_iinc (nI (j + 1)) dX2_copyFrom_32 rfl (nI_1 _) (by decide) rfl ?_
      refine a_goto 2 dX2_copyFrom_35 (by decide) ?_
      refine a_to rfl rfl rfl ?_ (ih (j + 1) (by omega))
      have e : (nI j).toNatClampNeg = j := cl6 (by omega)
      rw [e, fFl_s, fFl_s]
      rfl
  have := lp 6 0 (by omega)
  rw [fFl_0, fFl_0] at this
  exact this
end PINS
end
section
/-! written by wip/whole/pp.py out of wip/whole/src/17.tracker.lean -/
theorem dX5_init_0 : decode cX5_init 0 = .ok (.aload_n 0, 1) := by decide +kernel
theorem dX5_init_1 : decode cX5_init 1 = .ok (.invokespecial 3, 3) := by decide +kernel
theorem dX5_init_4 : decode cX5_init 4 = .ok (.aload_n 0, 1) := by decide +kernel
theorem dX5_init_5 : decode cX5_init 5 = .ok (.bipush 8, 2) := by decide +kernel
theorem dX5_init_7 : decode cX5_init 7 = .ok (.newarray .int, 2) := by decide +kernel
theorem dX5_init_9 : decode cX5_init 9 = .ok (.putfield 9, 3) := by decide +kernel
theorem dX5_init_12 : decode cX5_init 12 = .ok (.aload_n 0, 1) := by decide +kernel
theorem dX5_init_13 : decode cX5_init 13 = .ok (.bipush 8, 2) := by decide +kernel
theorem dX5_init_15 : decode cX5_init 15 = .ok (.newarray .long, 2) := by decide +kernel
theorem dX5_init_17 : decode cX5_init 17 = .ok (.putfield 15, 3) := by decide +kernel
theorem dX5_init_20 : decode cX5_init 20 = .ok (.aload_n 0, 1) := by decide +kernel
theorem dX5_init_21 : decode cX5_init 21 = .ok (.bipush 8, 2) := by decide +kernel
theorem dX5_init_23 : decode cX5_init 23 = .ok (.newarray .long, 2) := by decide +kernel
theorem dX5_init_25 : decode cX5_init 25 = .ok (.putfield 19, 3) := by decide +kernel
theorem dX5_init_28 : decode cX5_init 28 = .ok (.aload_n 0, 1) := by decide +kernel
theorem dX5_init_29 : decode cX5_init 29 = .ok (.iconst 0, 1) := by decide +kernel
theorem dX5_init_30 : decode cX5_init 30 = .ok (.putfield 22, 3) := by decide +kernel
theorem dX5_init_33 : decode cX5_init 33 = .ok (.return_, 1) := by decide +kernel
theorem dX5_clear_0 : decode cX5_clear 0 = .ok (.aload_n 0, 1) := by decide +kernel
theorem dX5_clear_1 : decode cX5_clear 1 = .ok (.iconst 0, 1) := by decide +kernel
theorem dX5_clear_2 : decode cX5_clear 2 = .ok (.putfield 22, 3) := by decide +kernel
theorem dX5_clear_5 : decode cX5_clear 5 = .ok (.return_, 1) := by decide +kernel
theorem dX5_size_0 : decode cX5_size 0 = .ok (.aload_n 0, 1) := by decide +kernel
theorem dX5_size_1 : decode cX5_size 1 = .ok (.getfield 22, 3) := by decide +kernel
theorem dX5_size_4 : decode cX5_size 4 = .ok (.ireturn, 1) := by decide +kernel
theorem dX5_has_0 : decode cX5_has 0 = .ok (.iload_n 1, 1) := by decide +kernel
theorem dX5_has_1 : decode cX5_has 1 = .ok (.ifCond .lt 21, 3) := by decide +kernel
theorem dX5_has_4 : decode cX5_has 4 = .ok (.iload_n 1, 1) := by decide +kernel
theorem dX5_has_5 : decode cX5_has 5 = .ok (.aload_n 0, 1) := by decide +kernel
theorem dX5_has_6 : decode cX5_has 6 = .ok (.getfield 22, 3) := by decide +kernel
theorem dX5_has_9 : decode cX5_has 9 = .ok (.if_icmp .ge 13, 3) := by decide +kernel
theorem dX5_has_12 : decode cX5_has 12 = .ok (.iload_n 1, 1) := by decide +kernel
theorem dX5_has_13 : decode cX5_has 13 = .ok (.bipush 8, 2) := by decide +kernel
theorem dX5_has_15 : decode cX5_has 15 = .ok (.if_icmp .ge 7, 3) := by decide +kernel
theorem dX5_has_18 : decode cX5_has 18 = .ok (.iconst 1, 1) := by decide +kernel
theorem dX5_has_19 : decode cX5_has 19 = .ok (.goto 4, 3) := by decide +kernel
theorem dX5_has_22 : decode cX5_has 22 = .ok (.iconst 0, 1) := by decide +kernel
theorem dX5_has_23 : decode cX5_has 23 = .ok (.ireturn, 1) := by decide +kernel
theorem dX5_key_0 : decode cX5_key 0 = .ok (.aload_n 0, 1) := by decide +kernel
theorem dX5_key_1 : decode cX5_key 1 = .ok (.iload_n 1, 1) := by decide +kernel
theorem dX5_key_2 : decode cX5_key 2 = .ok (.invokevirtual 26, 3) := by decide +kernel
theorem dX5_key_5 : decode cX5_key 5 = .ok (.ifCond .eq 12, 3) := by decide +kernel
theorem dX5_key_8 : decode cX5_key 8 = .ok (.aload_n 0, 1) := by decide +kernel
theorem dX5_key_9 : decode cX5_key 9 = .ok (.getfield 9, 3) := by decide +kernel
theorem dX5_key_12 : decode cX5_key 12 = .ok (.iload_n 1, 1) := by decide +kernel
theorem dX5_key_13 : decode cX5_key 13 = .ok (.iaload, 1) := by decide +kernel
theorem dX5_key_14 : decode cX5_key 14 = .ok (.goto 4, 3) := by decide +kernel
theorem dX5_key_17 : decode cX5_key 17 = .ok (.iconst (-1), 1) := by decide +kernel
theorem dX5_key_18 : decode cX5_key 18 = .ok (.ireturn, 1) := by decide +kernel
theorem dX5_counted_0 : decode cX5_counted 0 = .ok (.aload_n 0, 1) := by decide +kernel
theorem dX5_counted_1 : decode cX5_counted 1 = .ok (.iload_n 1, 1) := by decide +kernel
theorem dX5_counted_2 : decode cX5_counted 2 = .ok (.invokevirtual 26, 3) := by decide +kernel
theorem dX5_counted_5 : decode cX5_counted 5 = .ok (.ifCond .eq 12, 3) := by decide +kernel
theorem dX5_counted_8 : decode cX5_counted 8 = .ok (.aload_n 0, 1) := by decide +kernel
theorem dX5_counted_9 : decode cX5_counted 9 = .ok (.getfield 15, 3) := by decide +kernel
theorem dX5_counted_12 : decode cX5_counted 12 = .ok (.iload_n 1, 1) := by decide +kernel
theorem dX5_counted_13 : decode cX5_counted 13 = .ok (.laload, 1) := by decide +kernel
theorem dX5_counted_14 : decode cX5_counted 14 = .ok (.goto 4, 3) := by decide +kernel
theorem dX5_counted_17 : decode cX5_counted 17 = .ok (.lconst 0, 1) := by decide +kernel
theorem dX5_counted_18 : decode cX5_counted 18 = .ok (.lreturn, 1) := by decide +kernel
theorem dX5_error_0 : decode cX5_error 0 = .ok (.aload_n 0, 1) := by decide +kernel
theorem dX5_error_1 : decode cX5_error 1 = .ok (.iload_n 1, 1) := by decide +kernel
theorem dX5_error_2 : decode cX5_error 2 = .ok (.invokevirtual 26, 3) := by decide +kernel
theorem dX5_error_5 : decode cX5_error 5 = .ok (.ifCond .eq 12, 3) := by decide +kernel
theorem dX5_error_8 : decode cX5_error 8 = .ok (.aload_n 0, 1) := by decide +kernel
theorem dX5_error_9 : decode cX5_error 9 = .ok (.getfield 19, 3) := by decide +kernel
theorem dX5_error_12 : decode cX5_error 12 = .ok (.iload_n 1, 1) := by decide +kernel
theorem dX5_error_13 : decode cX5_error 13 = .ok (.laload, 1) := by decide +kernel
theorem dX5_error_14 : decode cX5_error 14 = .ok (.goto 4, 3) := by decide +kernel
theorem dX5_error_17 : decode cX5_error 17 = .ok (.lconst 0, 1) := by decide +kernel
theorem dX5_error_18 : decode cX5_error 18 = .ok (.lreturn, 1) := by decide +kernel
theorem dX5_count_0 : decode cX5_count 0 = .ok (.aload_n 0, 1) := by decide +kernel
theorem dX5_count_1 : decode cX5_count 1 = .ok (.iload_n 1, 1) := by decide +kernel
theorem dX5_count_2 : decode cX5_count 2 = .ok (.invokevirtual 30, 3) := by decide +kernel
theorem dX5_count_5 : decode cX5_count 5 = .ok (.istore_n 3, 1) := by decide +kernel
theorem dX5_count_6 : decode cX5_count 6 = .ok (.iload_n 3, 1) := by decide +kernel
theorem dX5_count_7 : decode cX5_count 7 = .ok (.iconst (-1), 1) := by decide +kernel
theorem dX5_count_8 : decode cX5_count 8 = .ok (.if_icmp .ne 26, 3) := by decide +kernel
theorem dX5_count_11 : decode cX5_count 11 = .ok (.aload_n 0, 1) := by decide +kernel
theorem dX5_count_12 : decode cX5_count 12 = .ok (.getfield 22, 3) := by decide +kernel
theorem dX5_count_15 : decode cX5_count 15 = .ok (.bipush 8, 2) := by decide +kernel
theorem dX5_count_17 : decode cX5_count 17 = .ok (.if_icmp .ge 11, 3) := by decide +kernel
theorem dX5_count_20 : decode cX5_count 20 = .ok (.aload_n 0, 1) := by decide +kernel
theorem dX5_count_21 : decode cX5_count 21 = .ok (.iload_n 1, 1) := by decide +kernel
theorem dX5_count_22 : decode cX5_count 22 = .ok (.invokevirtual 34, 3) := by decide +kernel
theorem dX5_count_25 : decode cX5_count 25 = .ok (.goto 8, 3) := by decide +kernel
theorem dX5_count_28 : decode cX5_count 28 = .ok (.aload_n 0, 1) := by decide +kernel
theorem dX5_count_29 : decode cX5_count 29 = .ok (.iload_n 1, 1) := by decide +kernel
theorem dX5_count_30 : decode cX5_count 30 = .ok (.invokevirtual 37, 3) := by decide +kernel
theorem dX5_count_33 : decode cX5_count 33 = .ok (.istore_n 3, 1) := by decide +kernel
theorem dX5_count_34 : decode cX5_count 34 = .ok (.aload_n 0, 1) := by decide +kernel
theorem dX5_count_35 : decode cX5_count 35 = .ok (.iload_n 3, 1) := by decide +kernel
theorem dX5_count_36 : decode cX5_count 36 = .ok (.invokevirtual 26, 3) := by decide +kernel
theorem dX5_count_39 : decode cX5_count 39 = .ok (.ifCond .eq 19, 3) := by decide +kernel
theorem dX5_count_42 : decode cX5_count 42 = .ok (.aload_n 0, 1) := by decide +kernel
theorem dX5_count_43 : decode cX5_count 43 = .ok (.getfield 15, 3) := by decide +kernel
theorem dX5_count_46 : decode cX5_count 46 = .ok (.iload_n 3, 1) := by decide +kernel
theorem dX5_count_47 : decode cX5_count 47 = .ok (.dup2, 1) := by decide +kernel
theorem dX5_count_48 : decode cX5_count 48 = .ok (.laload, 1) := by decide +kernel
theorem dX5_count_49 : decode cX5_count 49 = .ok (.iload_n 2, 1) := by decide +kernel
theorem dX5_count_50 : decode cX5_count 50 = .ok (.i2l, 1) := by decide +kernel
theorem dX5_count_51 : decode cX5_count 51 = .ok (.ladd, 1) := by decide +kernel
theorem dX5_count_52 : decode cX5_count 52 = .ok (.lastore, 1) := by decide +kernel
theorem dX5_count_53 : decode cX5_count 53 = .ok (.aload_n 0, 1) := by decide +kernel
theorem dX5_count_54 : decode cX5_count 54 = .ok (.iload_n 3, 1) := by decide +kernel
theorem dX5_count_55 : decode cX5_count 55 = .ok (.invokevirtual 40, 3) := by decide +kernel
theorem dX5_count_58 : decode cX5_count 58 = .ok (.return_, 1) := by decide +kernel
theorem dX5_find_0 : decode cX5_find 0 = .ok (.iconst 0, 1) := by decide +kernel
theorem dX5_find_1 : decode cX5_find 1 = .ok (.istore_n 2, 1) := by decide +kernel
theorem dX5_find_2 : decode cX5_find 2 = .ok (.iload_n 2, 1) := by decide +kernel
theorem dX5_find_3 : decode cX5_find 3 = .ok (.aload_n 0, 1) := by decide +kernel
theorem dX5_find_4 : decode cX5_find 4 = .ok (.getfield 22, 3) := by decide +kernel
theorem dX5_find_7 : decode cX5_find 7 = .ok (.if_icmp .ge 21, 3) := by decide +kernel
theorem dX5_find_10 : decode cX5_find 10 = .ok (.aload_n 0, 1) := by decide +kernel
theorem dX5_find_11 : decode cX5_find 11 = .ok (.getfield 9, 3) := by decide +kernel
theorem dX5_find_14 : decode cX5_find 14 = .ok (.iload_n 2, 1) := by decide +kernel
theorem dX5_find_15 : decode cX5_find 15 = .ok (.iaload, 1) := by decide +kernel
theorem dX5_find_16 : decode cX5_find 16 = .ok (.iload_n 1, 1) := by decide +kernel
theorem dX5_find_17 : decode cX5_find 17 = .ok (.if_icmp .ne 5, 3) := by decide +kernel
theorem dX5_find_20 : decode cX5_find 20 = .ok (.iload_n 2, 1) := by decide +kernel
theorem dX5_find_21 : decode cX5_find 21 = .ok (.ireturn, 1) := by decide +kernel
theorem dX5_find_22 : decode cX5_find 22 = .ok (.iinc 2 1, 3) := by decide +kernel
theorem dX5_find_25 : decode cX5_find 25 = .ok (.goto (-23), 3) := by decide +kernel
theorem dX5_find_28 : decode cX5_find 28 = .ok (.iconst (-1), 1) := by decide +kernel
theorem dX5_find_29 : decode cX5_find 29 = .ok (.ireturn, 1) := by decide +kernel
theorem dX5_append_0 : decode cX5_append 0 = .ok (.aload_n 0, 1) := by decide +kernel
theorem dX5_append_1 : decode cX5_append 1 = .ok (.getfield 22, 3) := by decide +kernel
theorem dX5_append_4 : decode cX5_append 4 = .ok (.istore_n 2, 1) := by decide +kernel
theorem dX5_append_5 : decode cX5_append 5 = .ok (.iload_n 2, 1) := by decide +kernel
theorem dX5_append_6 : decode cX5_append 6 = .ok (.ifCond .lt 9, 3) := by decide +kernel
theorem dX5_append_9 : decode cX5_append 9 = .ok (.iload_n 2, 1) := by decide +kernel
theorem dX5_append_10 : decode cX5_append 10 = .ok (.bipush 8, 2) := by decide +kernel
theorem dX5_append_12 : decode cX5_append 12 = .ok (.if_icmp .lt 5, 3) := by decide +kernel
theorem dX5_append_15 : decode cX5_append 15 = .ok (.iconst (-1), 1) := by decide +kernel
theorem dX5_append_16 : decode cX5_append 16 = .ok (.ireturn, 1) := by decide +kernel
theorem dX5_append_17 : decode cX5_append 17 = .ok (.aload_n 0, 1) := by decide +kernel
theorem dX5_append_18 : decode cX5_append 18 = .ok (.getfield 9, 3) := by decide +kernel
theorem dX5_append_21 : decode cX5_append 21 = .ok (.iload_n 2, 1) := by decide +kernel
theorem dX5_append_22 : decode cX5_append 22 = .ok (.iload_n 1, 1) := by decide +kernel
theorem dX5_append_23 : decode cX5_append 23 = .ok (.iastore, 1) := by decide +kernel
theorem dX5_append_24 : decode cX5_append 24 = .ok (.aload_n 0, 1) := by decide +kernel
theorem dX5_append_25 : decode cX5_append 25 = .ok (.getfield 15, 3) := by decide +kernel
theorem dX5_append_28 : decode cX5_append 28 = .ok (.iload_n 2, 1) := by decide +kernel
theorem dX5_append_29 : decode cX5_append 29 = .ok (.lconst 0, 1) := by decide +kernel
theorem dX5_append_30 : decode cX5_append 30 = .ok (.lastore, 1) := by decide +kernel
theorem dX5_append_31 : decode cX5_append 31 = .ok (.aload_n 0, 1) := by decide +kernel
theorem dX5_append_32 : decode cX5_append 32 = .ok (.getfield 19, 3) := by decide +kernel
theorem dX5_append_35 : decode cX5_append 35 = .ok (.iload_n 2, 1) := by decide +kernel
theorem dX5_append_36 : decode cX5_append 36 = .ok (.lconst 0, 1) := by decide +kernel
theorem dX5_append_37 : decode cX5_append 37 = .ok (.lastore, 1) := by decide +kernel
theorem dX5_append_38 : decode cX5_append 38 = .ok (.aload_n 0, 1) := by decide +kernel
theorem dX5_append_39 : decode cX5_append 39 = .ok (.dup, 1) := by decide +kernel
theorem dX5_append_40 : decode cX5_append 40 = .ok (.getfield 22, 3) := by decide +kernel
theorem dX5_append_43 : decode cX5_append 43 = .ok (.iconst 1, 1) := by decide +kernel
theorem dX5_append_44 : decode cX5_append 44 = .ok (.iadd, 1) := by decide +kernel
theorem dX5_append_45 : decode cX5_append 45 = .ok (.putfield 22, 3) := by decide +kernel
theorem dX5_append_48 : decode cX5_append 48 = .ok (.iload_n 2, 1) := by decide +kernel
theorem dX5_append_49 : decode cX5_append 49 = .ok (.ireturn, 1) := by decide +kernel
theorem dX5_replaceLeast_0 : decode cX5_replaceLeast 0 = .ok (.aload_n 0, 1) := by decide +kernel
theorem dX5_replaceLeast_1 : decode cX5_replaceLeast 1 = .ok (.invokevirtual 44, 3) := by decide +kernel
theorem dX5_replaceLeast_4 : decode cX5_replaceLeast 4 = .ok (.istore_n 2, 1) := by decide +kernel
theorem dX5_replaceLeast_5 : decode cX5_replaceLeast 5 = .ok (.aload_n 0, 1) := by decide +kernel
theorem dX5_replaceLeast_6 : decode cX5_replaceLeast 6 = .ok (.iload_n 2, 1) := by decide +kernel
theorem dX5_replaceLeast_7 : decode cX5_replaceLeast 7 = .ok (.invokevirtual 26, 3) := by decide +kernel
theorem dX5_replaceLeast_10 : decode cX5_replaceLeast 10 = .ok (.ifCond .eq 22, 3) := by decide +kernel
theorem dX5_replaceLeast_13 : decode cX5_replaceLeast 13 = .ok (.aload_n 0, 1) := by decide +kernel
theorem dX5_replaceLeast_14 : decode cX5_replaceLeast 14 = .ok (.getfield 9, 3) := by decide +kernel
theorem dX5_replaceLeast_17 : decode cX5_replaceLeast 17 = .ok (.iload_n 2, 1) := by decide +kernel
theorem dX5_replaceLeast_18 : decode cX5_replaceLeast 18 = .ok (.iload_n 1, 1) := by decide +kernel
theorem dX5_replaceLeast_19 : decode cX5_replaceLeast 19 = .ok (.iastore, 1) := by decide +kernel
theorem dX5_replaceLeast_20 : decode cX5_replaceLeast 20 = .ok (.aload_n 0, 1) := by decide +kernel
theorem dX5_replaceLeast_21 : decode cX5_replaceLeast 21 = .ok (.getfield 19, 3) := by decide +kernel
theorem dX5_replaceLeast_24 : decode cX5_replaceLeast 24 = .ok (.iload_n 2, 1) := by decide +kernel
theorem dX5_replaceLeast_25 : decode cX5_replaceLeast 25 = .ok (.aload_n 0, 1) := by decide +kernel
theorem dX5_replaceLeast_26 : decode cX5_replaceLeast 26 = .ok (.getfield 15, 3) := by decide +kernel
theorem dX5_replaceLeast_29 : decode cX5_replaceLeast 29 = .ok (.iload_n 2, 1) := by decide +kernel
theorem dX5_replaceLeast_30 : decode cX5_replaceLeast 30 = .ok (.laload, 1) := by decide +kernel
theorem dX5_replaceLeast_31 : decode cX5_replaceLeast 31 = .ok (.lastore, 1) := by decide +kernel
theorem dX5_replaceLeast_32 : decode cX5_replaceLeast 32 = .ok (.iload_n 2, 1) := by decide +kernel
theorem dX5_replaceLeast_33 : decode cX5_replaceLeast 33 = .ok (.ireturn, 1) := by decide +kernel
theorem dX5_least_0 : decode cX5_least 0 = .ok (.aload_n 0, 1) := by decide +kernel
theorem dX5_least_1 : decode cX5_least 1 = .ok (.getfield 22, 3) := by decide +kernel
theorem dX5_least_4 : decode cX5_least 4 = .ok (.iconst 1, 1) := by decide +kernel
theorem dX5_least_5 : decode cX5_least 5 = .ok (.isub, 1) := by decide +kernel
theorem dX5_least_6 : decode cX5_least 6 = .ok (.istore_n 1, 1) := by decide +kernel
theorem dX5_least_7 : decode cX5_least 7 = .ok (.iload_n 1, 1) := by decide +kernel
theorem dX5_least_8 : decode cX5_least 8 = .ok (.ifCond .le 25, 3) := by decide +kernel
theorem dX5_least_11 : decode cX5_least 11 = .ok (.aload_n 0, 1) := by decide +kernel
theorem dX5_least_12 : decode cX5_least 12 = .ok (.iload_n 1, 1) := by decide +kernel
theorem dX5_least_13 : decode cX5_least 13 = .ok (.iconst 1, 1) := by decide +kernel
theorem dX5_least_14 : decode cX5_least 14 = .ok (.isub, 1) := by decide +kernel
theorem dX5_least_15 : decode cX5_least 15 = .ok (.invokevirtual 48, 3) := by decide +kernel
theorem dX5_least_18 : decode cX5_least 18 = .ok (.aload_n 0, 1) := by decide +kernel
theorem dX5_least_19 : decode cX5_least 19 = .ok (.iload_n 1, 1) := by decide +kernel
theorem dX5_least_20 : decode cX5_least 20 = .ok (.invokevirtual 48, 3) := by decide +kernel
theorem dX5_least_23 : decode cX5_least 23 = .ok (.lcmp, 1) := by decide +kernel
theorem dX5_least_24 : decode cX5_least 24 = .ok (.ifCond .ne 9, 3) := by decide +kernel
theorem dX5_least_27 : decode cX5_least 27 = .ok (.iinc 1 (-1), 3) := by decide +kernel
theorem dX5_least_30 : decode cX5_least 30 = .ok (.goto (-23), 3) := by decide +kernel
theorem dX5_least_33 : decode cX5_least 33 = .ok (.iload_n 1, 1) := by decide +kernel
theorem dX5_least_34 : decode cX5_least 34 = .ok (.ireturn, 1) := by decide +kernel
theorem dX5_moveForward_0 : decode cX5_moveForward 0 = .ok (.iload_n 1, 1) := by decide +kernel
theorem dX5_moveForward_1 : decode cX5_moveForward 1 = .ok (.istore_n 2, 1) := by decide +kernel
theorem dX5_moveForward_2 : decode cX5_moveForward 2 = .ok (.iload_n 2, 1) := by decide +kernel
theorem dX5_moveForward_3 : decode cX5_moveForward 3 = .ok (.ifCond .le 28, 3) := by decide +kernel
theorem dX5_moveForward_6 : decode cX5_moveForward 6 = .ok (.aload_n 0, 1) := by decide +kernel
theorem dX5_moveForward_7 : decode cX5_moveForward 7 = .ok (.iload_n 2, 1) := by decide +kernel
theorem dX5_moveForward_8 : decode cX5_moveForward 8 = .ok (.iload_n 2, 1) := by decide +kernel
theorem dX5_moveForward_9 : decode cX5_moveForward 9 = .ok (.iconst 1, 1) := by decide +kernel
theorem dX5_moveForward_10 : decode cX5_moveForward 10 = .ok (.isub, 1) := by decide +kernel
theorem dX5_moveForward_11 : decode cX5_moveForward 11 = .ok (.invokevirtual 52, 3) := by decide +kernel
theorem dX5_moveForward_14 : decode cX5_moveForward 14 = .ok (.ifCond .eq 17, 3) := by decide +kernel
theorem dX5_moveForward_17 : decode cX5_moveForward 17 = .ok (.aload_n 0, 1) := by decide +kernel
theorem dX5_moveForward_18 : decode cX5_moveForward 18 = .ok (.iload_n 2, 1) := by decide +kernel
theorem dX5_moveForward_19 : decode cX5_moveForward 19 = .ok (.iload_n 2, 1) := by decide +kernel
theorem dX5_moveForward_20 : decode cX5_moveForward 20 = .ok (.iconst 1, 1) := by decide +kernel
theorem dX5_moveForward_21 : decode cX5_moveForward 21 = .ok (.isub, 1) := by decide +kernel
theorem dX5_moveForward_22 : decode cX5_moveForward 22 = .ok (.invokevirtual 56, 3) := by decide +kernel
theorem dX5_moveForward_25 : decode cX5_moveForward 25 = .ok (.iinc 2 (-1), 3) := by decide +kernel
theorem dX5_moveForward_28 : decode cX5_moveForward 28 = .ok (.goto (-26), 3) := by decide +kernel
theorem dX5_moveForward_31 : decode cX5_moveForward 31 = .ok (.return_, 1) := by decide +kernel
theorem dX5_isListedBefore_0 : decode cX5_isListedBefore 0 = .ok (.aload_n 0, 1) := by decide +kernel
theorem dX5_isListedBefore_1 : decode cX5_isListedBefore 1 = .ok (.iload_n 1, 1) := by decide +kernel
theorem dX5_isListedBefore_2 : decode cX5_isListedBefore 2 = .ok (.invokevirtual 48, 3) := by decide +kernel
theorem dX5_isListedBefore_5 : decode cX5_isListedBefore 5 = .ok (.lstore_n 3, 1) := by decide +kernel
theorem dX5_isListedBefore_6 : decode cX5_isListedBefore 6 = .ok (.aload_n 0, 1) := by decide +kernel
theorem dX5_isListedBefore_7 : decode cX5_isListedBefore 7 = .ok (.iload_n 2, 1) := by decide +kernel
theorem dX5_isListedBefore_8 : decode cX5_isListedBefore 8 = .ok (.invokevirtual 48, 3) := by decide +kernel
theorem dX5_isListedBefore_11 : decode cX5_isListedBefore 11 = .ok (.lstore 5, 2) := by decide +kernel
theorem dX5_isListedBefore_13 : decode cX5_isListedBefore 13 = .ok (.lload_n 3, 1) := by decide +kernel
theorem dX5_isListedBefore_14 : decode cX5_isListedBefore 14 = .ok (.lload 5, 2) := by decide +kernel
theorem dX5_isListedBefore_16 : decode cX5_isListedBefore 16 = .ok (.lcmp, 1) := by decide +kernel
theorem dX5_isListedBefore_17 : decode cX5_isListedBefore 17 = .ok (.ifCond .gt 23, 3) := by decide +kernel
theorem dX5_isListedBefore_20 : decode cX5_isListedBefore 20 = .ok (.lload_n 3, 1) := by decide +kernel
theorem dX5_isListedBefore_21 : decode cX5_isListedBefore 21 = .ok (.lload 5, 2) := by decide +kernel
theorem dX5_isListedBefore_23 : decode cX5_isListedBefore 23 = .ok (.lcmp, 1) := by decide +kernel
theorem dX5_isListedBefore_24 : decode cX5_isListedBefore 24 = .ok (.ifCond .ne 20, 3) := by decide +kernel
theorem dX5_isListedBefore_27 : decode cX5_isListedBefore 27 = .ok (.aload_n 0, 1) := by decide +kernel
theorem dX5_isListedBefore_28 : decode cX5_isListedBefore 28 = .ok (.iload_n 1, 1) := by decide +kernel
theorem dX5_isListedBefore_29 : decode cX5_isListedBefore 29 = .ok (.invokevirtual 60, 3) := by decide +kernel
theorem dX5_isListedBefore_32 : decode cX5_isListedBefore 32 = .ok (.aload_n 0, 1) := by decide +kernel
theorem dX5_isListedBefore_33 : decode cX5_isListedBefore 33 = .ok (.iload_n 2, 1) := by decide +kernel
theorem dX5_isListedBefore_34 : decode cX5_isListedBefore 34 = .ok (.invokevirtual 60, 3) := by decide +kernel
theorem dX5_isListedBefore_37 : decode cX5_isListedBefore 37 = .ok (.if_icmp .ge 7, 3) := by decide +kernel
theorem dX5_isListedBefore_40 : decode cX5_isListedBefore 40 = .ok (.iconst 1, 1) := by decide +kernel
theorem dX5_isListedBefore_41 : decode cX5_isListedBefore 41 = .ok (.goto 4, 3) := by decide +kernel
theorem dX5_isListedBefore_44 : decode cX5_isListedBefore 44 = .ok (.iconst 0, 1) := by decide +kernel
theorem dX5_isListedBefore_45 : decode cX5_isListedBefore 45 = .ok (.ireturn, 1) := by decide +kernel
theorem dX5_swap_0 : decode cX5_swap 0 = .ok (.aload_n 0, 1) := by decide +kernel
theorem dX5_swap_1 : decode cX5_swap 1 = .ok (.iload_n 1, 1) := by decide +kernel
theorem dX5_swap_2 : decode cX5_swap 2 = .ok (.invokevirtual 26, 3) := by decide +kernel
theorem dX5_swap_5 : decode cX5_swap 5 = .ok (.ifCond .eq 93, 3) := by decide +kernel
theorem dX5_swap_8 : decode cX5_swap 8 = .ok (.aload_n 0, 1) := by decide +kernel
theorem dX5_swap_9 : decode cX5_swap 9 = .ok (.iload_n 2, 1) := by decide +kernel
theorem dX5_swap_10 : decode cX5_swap 10 = .ok (.invokevirtual 26, 3) := by decide +kernel
theorem dX5_swap_13 : decode cX5_swap 13 = .ok (.ifCond .eq 85, 3) := by decide +kernel
theorem dX5_swap_16 : decode cX5_swap 16 = .ok (.aload_n 0, 1) := by decide +kernel
theorem dX5_swap_17 : decode cX5_swap 17 = .ok (.getfield 9, 3) := by decide +kernel
theorem dX5_swap_20 : decode cX5_swap 20 = .ok (.iload_n 1, 1) := by decide +kernel
theorem dX5_swap_21 : decode cX5_swap 21 = .ok (.iaload, 1) := by decide +kernel
theorem dX5_swap_22 : decode cX5_swap 22 = .ok (.istore_n 3, 1) := by decide +kernel
theorem dX5_swap_23 : decode cX5_swap 23 = .ok (.aload_n 0, 1) := by decide +kernel
theorem dX5_swap_24 : decode cX5_swap 24 = .ok (.getfield 15, 3) := by decide +kernel
theorem dX5_swap_27 : decode cX5_swap 27 = .ok (.iload_n 1, 1) := by decide +kernel
theorem dX5_swap_28 : decode cX5_swap 28 = .ok (.laload, 1) := by decide +kernel
theorem dX5_swap_29 : decode cX5_swap 29 = .ok (.lstore 4, 2) := by decide +kernel
theorem dX5_swap_31 : decode cX5_swap 31 = .ok (.aload_n 0, 1) := by decide +kernel
theorem dX5_swap_32 : decode cX5_swap 32 = .ok (.getfield 19, 3) := by decide +kernel
theorem dX5_swap_35 : decode cX5_swap 35 = .ok (.iload_n 1, 1) := by decide +kernel
theorem dX5_swap_36 : decode cX5_swap 36 = .ok (.laload, 1) := by decide +kernel
theorem dX5_swap_37 : decode cX5_swap 37 = .ok (.lstore 6, 2) := by decide +kernel
theorem dX5_swap_39 : decode cX5_swap 39 = .ok (.aload_n 0, 1) := by decide +kernel
theorem dX5_swap_40 : decode cX5_swap 40 = .ok (.getfield 9, 3) := by decide +kernel
theorem dX5_swap_43 : decode cX5_swap 43 = .ok (.iload_n 1, 1) := by decide +kernel
theorem dX5_swap_44 : decode cX5_swap 44 = .ok (.aload_n 0, 1) := by decide +kernel
theorem dX5_swap_45 : decode cX5_swap 45 = .ok (.getfield 9, 3) := by decide +kernel
theorem dX5_swap_48 : decode cX5_swap 48 = .ok (.iload_n 2, 1) := by decide +kernel
theorem dX5_swap_49 : decode cX5_swap 49 = .ok (.iaload, 1) := by decide +kernel
theorem dX5_swap_50 : decode cX5_swap 50 = .ok (.iastore, 1) := by decide +kernel
theorem dX5_swap_51 : decode cX5_swap 51 = .ok (.aload_n 0, 1) := by decide +kernel
theorem dX5_swap_52 : decode cX5_swap 52 = .ok (.getfield 15, 3) := by decide +kernel
theorem dX5_swap_55 : decode cX5_swap 55 = .ok (.iload_n 1, 1) := by decide +kernel
theorem dX5_swap_56 : decode cX5_swap 56 = .ok (.aload_n 0, 1) := by decide +kernel
theorem dX5_swap_57 : decode cX5_swap 57 = .ok (.getfield 15, 3) := by decide +kernel
theorem dX5_swap_60 : decode cX5_swap 60 = .ok (.iload_n 2, 1) := by decide +kernel
theorem dX5_swap_61 : decode cX5_swap 61 = .ok (.laload, 1) := by decide +kernel
theorem dX5_swap_62 : decode cX5_swap 62 = .ok (.lastore, 1) := by decide +kernel
theorem dX5_swap_63 : decode cX5_swap 63 = .ok (.aload_n 0, 1) := by decide +kernel
theorem dX5_swap_64 : decode cX5_swap 64 = .ok (.getfield 19, 3) := by decide +kernel
theorem dX5_swap_67 : decode cX5_swap 67 = .ok (.iload_n 1, 1) := by decide +kernel
theorem dX5_swap_68 : decode cX5_swap 68 = .ok (.aload_n 0, 1) := by decide +kernel
theorem dX5_swap_69 : decode cX5_swap 69 = .ok (.getfield 19, 3) := by decide +kernel
theorem dX5_swap_72 : decode cX5_swap 72 = .ok (.iload_n 2, 1) := by decide +kernel
theorem dX5_swap_73 : decode cX5_swap 73 = .ok (.laload, 1) := by decide +kernel
theorem dX5_swap_74 : decode cX5_swap 74 = .ok (.lastore, 1) := by decide +kernel
theorem dX5_swap_75 : decode cX5_swap 75 = .ok (.aload_n 0, 1) := by decide +kernel
theorem dX5_swap_76 : decode cX5_swap 76 = .ok (.getfield 9, 3) := by decide +kernel
theorem dX5_swap_79 : decode cX5_swap 79 = .ok (.iload_n 2, 1) := by decide +kernel
theorem dX5_swap_80 : decode cX5_swap 80 = .ok (.iload_n 3, 1) := by decide +kernel
theorem dX5_swap_81 : decode cX5_swap 81 = .ok (.iastore, 1) := by decide +kernel
theorem dX5_swap_82 : decode cX5_swap 82 = .ok (.aload_n 0, 1) := by decide +kernel
theorem dX5_swap_83 : decode cX5_swap 83 = .ok (.getfield 15, 3) := by decide +kernel
theorem dX5_swap_86 : decode cX5_swap 86 = .ok (.iload_n 2, 1) := by decide +kernel
theorem dX5_swap_87 : decode cX5_swap 87 = .ok (.lload 4, 2) := by decide +kernel
theorem dX5_swap_89 : decode cX5_swap 89 = .ok (.lastore, 1) := by decide +kernel
theorem dX5_swap_90 : decode cX5_swap 90 = .ok (.aload_n 0, 1) := by decide +kernel
theorem dX5_swap_91 : decode cX5_swap 91 = .ok (.getfield 19, 3) := by decide +kernel
theorem dX5_swap_94 : decode cX5_swap 94 = .ok (.iload_n 2, 1) := by decide +kernel
theorem dX5_swap_95 : decode cX5_swap 95 = .ok (.lload 6, 2) := by decide +kernel
theorem dX5_swap_97 : decode cX5_swap 97 = .ok (.lastore, 1) := by decide +kernel
theorem dX5_swap_98 : decode cX5_swap 98 = .ok (.return_, 1) := by decide +kernel
theorem k_X5_key_26 : aKV mX5_key mX5_has 26 1 5 := ⟨cb_X5_has, rfl, ml_X5_26, iv_X5_has, sl_X5_has, ⟨_, _, rfl⟩, ⟨Nat.le_of_ble_eq_true rfl, Nat.le_of_ble_eq_true rfl⟩⟩
theorem k_X5_counted_26 : aKV mX5_counted mX5_has 26 1 5 := ⟨cb_X5_has, rfl, ml_X5_26, iv_X5_has, sl_X5_has, ⟨_, _, rfl⟩, ⟨Nat.le_of_ble_eq_true rfl, Nat.le_of_ble_eq_true rfl⟩⟩
theorem k_X5_error_26 : aKV mX5_error mX5_has 26 1 5 := ⟨cb_X5_has, rfl, ml_X5_26, iv_X5_has, sl_X5_has, ⟨_, _, rfl⟩, ⟨Nat.le_of_ble_eq_true rfl, Nat.le_of_ble_eq_true rfl⟩⟩
theorem k_X5_least_48 : aKV mX5_least mX5_counted 48 1 5 := ⟨cb_X5_counted, rfl, ml_X5_48, iv_X5_counted, sl_X5_counted, ⟨_, _, rfl⟩, ⟨Nat.le_of_ble_eq_true rfl, Nat.le_of_ble_eq_true rfl⟩⟩
theorem k_X5_replaceLeast_44 : aKV mX5_replaceLeast mX5_least 44 0 5 := ⟨cb_X5_least, rfl, ml_X5_44, iv_X5_least, sl_X5_least, ⟨_, _, rfl⟩, ⟨Nat.le_of_ble_eq_true rfl, Nat.le_of_ble_eq_true rfl⟩⟩
theorem k_X5_replaceLeast_26 : aKV mX5_replaceLeast mX5_has 26 1 5 := ⟨cb_X5_has, rfl, ml_X5_26, iv_X5_has, sl_X5_has, ⟨_, _, rfl⟩, ⟨Nat.le_of_ble_eq_true rfl, Nat.le_of_ble_eq_true rfl⟩⟩
theorem k_X5_isListedBefore_48 : aKV mX5_isListedBefore mX5_counted 48 1 5 := ⟨cb_X5_counted, rfl, ml_X5_48, iv_X5_counted, sl_X5_counted, ⟨_, _, rfl⟩, ⟨Nat.le_of_ble_eq_true rfl, Nat.le_of_ble_eq_true rfl⟩⟩
theorem k_X5_isListedBefore_60 : aKV mX5_isListedBefore mX5_key 60 1 5 := ⟨cb_X5_key, rfl, ml_X5_60, iv_X5_key, sl_X5_key, ⟨_, _, rfl⟩, ⟨Nat.le_of_ble_eq_true rfl, Nat.le_of_ble_eq_true rfl⟩⟩
theorem k_X5_swap_26 : aKV mX5_swap mX5_has 26 1 5 := ⟨cb_X5_has, rfl, ml_X5_26, iv_X5_has, sl_X5_has, ⟨_, _, rfl⟩, ⟨Nat.le_of_ble_eq_true rfl, Nat.le_of_ble_eq_true rfl⟩⟩
theorem k_X5_moveForward_52 : aKV mX5_moveForward mX5_isListedBefore 52 2 5 := ⟨cb_X5_isListedBefore, rfl, ml_X5_52, iv_X5_isListedBefore, sl_X5_isListedBefore, ⟨_, _, rfl⟩, ⟨Nat.le_of_ble_eq_true rfl, Nat.le_of_ble_eq_true rfl⟩⟩
theorem k_X5_moveForward_56 : aKV mX5_moveForward mX5_swap 56 2 5 := ⟨cb_X5_swap, rfl, ml_X5_56, iv_X5_swap, sl_X5_swap, ⟨_, _, rfl⟩, ⟨Nat.le_of_ble_eq_true rfl, Nat.le_of_ble_eq_true rfl⟩⟩
theorem k_X5_count_26 : aKV mX5_count mX5_has 26 1 5 := ⟨cb_X5_has, rfl, ml_X5_26, iv_X5_has, sl_X5_has, ⟨_, _, rfl⟩, ⟨Nat.le_of_ble_eq_true rfl, Nat.le_of_ble_eq_true rfl⟩⟩
theorem k_X5_count_40 : aKV mX5_count mX5_moveForward 40 1 5 := ⟨cb_X5_moveForward, rfl, ml_X5_40, iv_X5_moveForward, sl_X5_moveForward, ⟨_, _, rfl⟩, ⟨Nat.le_of_ble_eq_true rfl, Nat.le_of_ble_eq_true rfl⟩⟩
theorem k_X5_count_30 : aKV mX5_count mX5_find 30 1 5 := ⟨cb_X5_find, rfl, ml_X5_30, iv_X5_find, sl_X5_find, ⟨_, _, rfl⟩, ⟨Nat.le_of_ble_eq_true rfl, Nat.le_of_ble_eq_true rfl⟩⟩
theorem k_X5_count_34 : aKV mX5_count mX5_append 34 1 5 := ⟨cb_X5_append, rfl, ml_X5_34, iv_X5_append, sl_X5_append, ⟨_, _, rfl⟩, ⟨Nat.le_of_ble_eq_true rfl, Nat.le_of_ble_eq_true rfl⟩⟩
theorem k_X5_count_37 : aKV mX5_count mX5_replaceLeast 37 1 5 := ⟨cb_X5_replaceLeast, rfl, ml_X5_37, iv_X5_replaceLeast, sl_X5_replaceLeast, ⟨_, _, rfl⟩, ⟨Nat.le_of_ble_eq_true rfl, Nat.le_of_ble_eq_true rfl⟩⟩
/-! ===== Tracker ===== -/
abbrev aTr (tk : Nat → Int32) (tc te : Nat → Int64) (m : Nat) : List aCell := [aOb 5 [.ref 1, .ref 2, .ref 3, .int (nI m)], aIa 8 tk, aLa 8 tc, aLa 8 te]
abbrev rs4 : List Nat := [0, 1, 2, 3]
def tHs (m : Nat) (e : Int32) : Bool := decide (¬ e < 0) && (decide (¬ nI m ≤ e) && decide (¬ (8 : Int32) ≤ e))
theorem ge8_f {j : Nat} (h : j < 8) : ¬ (8 : Int32) ≤ nI j := nI_ge (b := 8) h (by decide)
theorem in8 {j : Nat} (h : j < 8) : vp_in (nI j) 8 := vp_in_nI h (by decide)
theorem cl8 {j : Nat} (h : j < 8) : (nI j).toNatClampNeg = j := nI_clamp (by omega)
theorem tHs_in {m : Nat} {e : Int32} (h : tHs m e = true) : vp_in e 8 := by
  simp only [tHs, Bool.and_eq_true, decide_eq_true_eq] at h
  obtain ⟨j, hj, rfl⟩ := nI_of h.1
  refine vp_in_nI ?_ (by decide)
  rcases Nat.lt_or_ge j 8 with q | q
  · exact q
  · exact absurd (nI_le (a := 8) q hj) h.2.2
theorem tHs_j {m j : Nat} (h : j < m) (hm : m ≤ 8) : tHs m (nI j) = true := by
  simp only [tHs, Bool.and_eq_true, decide_eq_true_eq]
  exact ⟨nI_pos (by omega), nI_ge h (by omega), ge8_f (by omega)⟩
/-- entry a stands ahead of entry b -/
def tLb (tk : Nat → Int32) (tc : Nat → Int64) (a b : Nat) : Bool := decide (tc b < tc a) || (decide (tc a = tc b) && decide (¬ tk b ≤ tk a))
abbrev tT : Type := (Nat → Int32) × (Nat → Int64) × (Nat → Int64)
def tSw (σ : tT) (a b : Nat) : tT := (upd (upd σ.1 a (σ.1 b)) b (σ.1 a), vp_updL (vp_updL σ.2.1 a (σ.2.1 b)) b (σ.2.1 a), vp_updL (vp_updL σ.2.2 a (σ.2.2 b)) b (σ.2.2 a))
def tMv : Nat → tT → tT
  | 0, σ => σ
  | i + 1, σ => if tLb σ.1 σ.2.1 (i + 1) i then tMv i (tSw σ (i + 1) i) else σ
def tLs (tc : Nat → Int64) : Nat → Nat
  | 0 => 0
  | j + 1 => if tc j = tc (j + 1) then tLs tc j else j + 1
theorem tLs_le (tc : Nat → Int64) : ∀ j, tLs tc j ≤ j
  | 0 => Nat.le_refl _
  | j + 1 => by
    unfold tLs
    split
    · have := tLs_le tc j; omega
    · exact Nat.le_refl _
section TRK
variable {l : Launch} {X : aX} {tk : Nat → Int32} {tc te : Nat → Int64} {m : Nat}
theorem c_X5_init : aWr l X mX5_init [0] [.ref 0] [aOb 5 [.null, .null, .null, .int 0]] none (aTr (fun _ => 0) (fun _ => 0) (fun _ => 0) 0) := by
  refine aMt.of (by decide) rfl (Nat.le_of_ble_eq_true rfl) ?_
  refine a_aload_n dX5_init_0 rfl ?_
  refine a_objInit ml_X5_3 oi_iv oi_cd dX5_init_1 (by decide) (Nat.le_of_ble_eq_true rfl) ?_
  refine a_aload_n dX5_init_4 rfl ?_
  refine a_bipush 8 dX5_init_5 (by decide) ?_
  refine a_newi 8 ar_int (by decide) (by decide) (by decide) dX5_init_7 rfl (by decide) (by decide) ?_
  refine a_putF fp_X5_9 rfl dX5_init_9 rfl (Nat.le_of_ble_eq_true rfl) (fun _ => ⟨rfl, rfl⟩) ?_
  refine a_aload_n dX5_init_12 rfl ?_
  refine a_bipush 8 dX5_init_13 (by decide) ?_
  refine a_newl 8 ar_long (by decide) (by decide) (by decide) dX5_init_15 rfl (by decide) (by decide) ?_
  refine a_putF fp_X5_15 rfl dX5_init_17 rfl (Nat.le_of_ble_eq_true rfl) (fun _ => ⟨rfl, rfl⟩) ?_
  refine a_aload_n dX5_init_20 rfl ?_
  refine a_bipush 8 dX5_init_21 (by decide) ?_
  refine a_newl 8 ar_long (by decide) (by decide) (by decide) dX5_init_23 rfl (by decide) (by decide) ?_
  refine a_putF fp_X5_19 rfl dX5_init_25 rfl (Nat.le_of_ble_eq_true rfl) (fun _ => ⟨rfl, rfl⟩) ?_
  refine a_aload_n dX5_init_28 rfl ?_
  refine a_iconst 0 dX5_init_29 (by decide) ?_
  refine a_put fp_X5_22 dX5_init_30 rfl (Nat.le_of_ble_eq_true rfl) (fun _ => ⟨rfl, rfl⟩) ?_
  refine a_vret rfl dX5_init_33 (by decide) (by decide) ?_
  exact ⟨rfl, rfl⟩
theorem c_X5_clear : aWr l X mX5_clear rs4 [.ref 0] (aTr tk tc te m) none (aTr tk tc te 0) := by
  refine aMt.of (by decide) rfl (Nat.le_of_ble_eq_true rfl) ?_
  refine a_aload_n dX5_clear_0 rfl ?_
  refine a_iconst 0 dX5_clear_1 (by decide) ?_
  refine a_put fp_X5_22 dX5_clear_2 rfl (Nat.le_of_ble_eq_true rfl) (fun _ => ⟨rfl, rfl⟩) ?_
  refine a_vret rfl dX5_clear_5 (by decide) (by decide) ?_
  exact ⟨rfl, rfl⟩
theorem c_X5_size : aRd l X mX5_size rs4 [.ref 0] (aTr tk tc te m) (.int (nI m)) := by
  refine aMt.of (by decide) rfl (Nat.le_of_ble_eq_true rfl) ?_
  refine a_aload_n dX5_size_0 rfl ?_
  refine a_get fl_X5_22 dX5_size_1 rfl rfl ?_
  refine a_iret rfl dX5_size_4 (by decide) (by decide) ?_
  exact ⟨rfl, rfl⟩
theorem c_X5_has (e : Int32) : aRd l X mX5_has rs4 [.ref 0, .int e] (aTr tk tc te m) (.int (bI (tHs m e))) := by
  refine aMt.of (by decide) rfl (Nat.le_of_ble_eq_true rfl) ?_
  refine a_iload_n dX5_has_0 rfl ?_
  refine a_if_lt 22 dX5_has_1 (by decide) (fun c1 => ?_) (fun c1 => ?_)
  · refine a_iconst 0 dX5_has_22 (by decide) ?_
    refine a_zret rfl rfl dX5_has_23 (by decide) (by decide) ?_
    exact ⟨by simp [tHs, c1, bI], rfl⟩
  · refine a_iload_n dX5_has_4 rfl ?_
    refine a_aload_n dX5_has_5 rfl ?_
    refine a_get fl_X5_22 dX5_has_6 rfl rfl ?_
    refine a_icmp_ge 22 dX5_has_9 (by decide) (fun c9 => ?_) (fun c9 => ?_)
    · refine a_iconst 0 dX5_has_22 (by decide) ?_
      refine a_zret rfl rfl dX5_has_23 (by decide) (by decide) ?_
      exact ⟨by simp [tHs, c1, c9, bI], rfl⟩
    · refine a_iload_n dX5_has_12 rfl ?_
      refine a_bipush 8 dX5_has_13 (by decide) ?_
      refine a_icmp_ge 22 dX5_has_15 (by decide) (fun c15 => ?_) (fun c15 => ?_)
      · refine a_iconst 0 dX5_has_22 (by decide) ?_
        refine a_zret rfl rfl dX5_has_23 (by decide) (by decide) ?_
        exact ⟨by simp [tHs, c1, c9, c15, bI], rfl⟩
      · refine a_iconst 1 dX5_has_18 (by decide) ?_
        refine a_goto 23 dX5_has_19 (by decide) ?_
        refine a_zret rfl rfl dX5_has_23 (by decide) (by decide) ?_
        exact ⟨by simp [tHs, c1, c9, c15, bI], rfl⟩
theorem c_X5_key (e : Int32) : aRd l X mX5_key rs4 [.ref 0, .int e] (aTr tk tc te m) (.int (if tHs m e then tk e.toNatClampNeg else -1)) := by
  refine aMt.of (by decide) rfl (Nat.le_of_ble_eq_true rfl) ?_
  refine a_aload_n dX5_key_0 rfl ?_
  refine a_iload_n dX5_key_1 rfl ?_
  refine a_ViR [0, 1, 2, 3] k_X5_key_26 (c_X5_has (tk := tk) (tc := tc) (te := te) (m := m) e) dX5_key_2 rfl rfl rfl rfl rfl rfl (Nat.le_of_ble_eq_true rfl) ⟨Nat.le_of_ble_eq_true rfl, Nat.le_of_ble_eq_true rfl⟩ ⟨rfl, rfl⟩ ?_
  refine a_if_eq 17 dX5_key_5 (by decide) (fun c5 => ?_) (fun c5 => ?_)
  · refine a_iconst (-1) dX5_key_17 (by decide) ?_
    refine a_iret rfl dX5_key_18 (by decide) (by decide) ?_
    exact ⟨by simp [bI_0 c5], rfl⟩
  · refine a_aload_n dX5_key_8 rfl ?_
    refine a_get fl_X5_9 dX5_key_9 rfl rfl ?_
    refine a_iload_n dX5_key_12 rfl ?_
    refine a_iald dX5_key_13 rfl (tHs_in (bI_1 c5)) ?_
    refine a_goto 18 dX5_key_14 (by decide) ?_
    refine a_iret rfl dX5_key_18 (by decide) (by decide) ?_
    exact ⟨by simp [bI_1 c5], rfl⟩
theorem c_X5_counted (e : Int32) : aRd l X mX5_counted rs4 [.ref 0, .int e] (aTr tk tc te m) (.long (if tHs m e then tc e.toNatClampNeg else 0)) := by
  refine aMt.of (by decide) rfl (Nat.le_of_ble_eq_true rfl) ?_
  refine a_aload_n dX5_counted_0 rfl ?_
  refine a_iload_n dX5_counted_1 rfl ?_
  refine a_ViR [0, 1, 2, 3] k_X5_counted_26 (c_X5_has (tk := tk) (tc := tc) (te := te) (m := m) e) dX5_counted_2 rfl rfl rfl rfl rfl rfl (Nat.le_of_ble_eq_true rfl) ⟨Nat.le_of_ble_eq_true rfl, Nat.le_of_ble_eq_true rfl⟩ ⟨rfl, rfl⟩ ?_
  refine a_if_eq 17 dX5_counted_5 (by decide) (fun c5 => ?_) (fun c5 => ?_)
  · refine a_lconst 0 dX5_counted_17 (by decide) ?_
    refine a_lret rfl dX5_counted_18 (by decide) (by decide) ?_
    exact ⟨by simp [bI_0 c5], rfl⟩
  · refine a_aload_n dX5_counted_8 rfl ?_
    refine a_get fl_X5_15 dX5_counted_9 rfl rfl ?_
    refine a_iload_n dX5_counted_12 rfl ?_
    refine a_lald dX5_counted_13 rfl (tHs_in (bI_1 c5)) ?_
    refine a_goto 18 dX5_counted_14 (by decide) ?_
    refine a_lret rfl dX5_counted_18 (by decide) (by decide) ?_
    exact ⟨by simp [bI_1 c5], rfl⟩
theorem c_X5_error (e : Int32) : aRd l X mX5_error rs4 [.ref 0, .int e] (aTr tk tc te m) (.long (if tHs m e then te e.toNatClampNeg else 0)) := by
  refine aMt.of (by decide) rfl (Nat.le_of_ble_eq_true rfl) ?_
  refine a_aload_n dX5_error_0 rfl ?_
  refine a_iload_n dX5_error_1 rfl ?_
  refine a_ViR [0, 1, 2, 3] k_X5_error_26 (c_X5_has (tk := tk) (tc := tc) (te := te) (m := m) e) dX5_error_2 rfl rfl rfl rfl rfl rfl (Nat.le_of_ble_eq_true rfl) ⟨Nat.le_of_ble_eq_true rfl, Nat.le_of_ble_eq_true rfl⟩ ⟨rfl, rfl⟩ ?_
  refine a_if_eq 17 dX5_error_5 (by decide) (fun c5 => ?_) (fun c5 => ?_)
  · refine a_lconst 0 dX5_error_17 (by decide) ?_
    refine a_lret rfl dX5_error_18 (by decide) (by decide) ?_
    exact ⟨by simp [bI_0 c5], rfl⟩
  · refine a_aload_n dX5_error_8 rfl ?_
    refine a_get fl_X5_19 dX5_error_9 rfl rfl ?_
    refine a_iload_n dX5_error_12 rfl ?_
    refine a_lald dX5_error_13 rfl (tHs_in (bI_1 c5)) ?_
    refine a_goto 18 dX5_error_14 (by decide) ?_
    refine a_lret rfl dX5_error_18 (by decide) (by decide) ?_
    exact ⟨by simp [bI_1 c5], rfl⟩
theorem c_X5_counted_j {j : Nat} (hj : j < m) (hm : m ≤ 8) : aRd l X mX5_counted rs4 [.ref 0, .int (nI j)] (aTr tk tc te m) (.long (tc j)) := by
  have := c_X5_counted (l := l) (X := X) (tk := tk) (tc := tc) (te := te) (m := m) (nI j)
  rw [tHs_j hj hm, cl8 (by omega)] at this
  exact this
theorem c_X5_key_j {j : Nat} (hj : j < m) (hm : m ≤ 8) : aRd l X mX5_key rs4 [.ref 0, .int (nI j)] (aTr tk tc te m) (.int (tk j)) := by
  have := c_X5_key (l := l) (X := X) (tk := tk) (tc := tc) (te := te) (m := m) (nI j)
  rw [tHs_j hj hm, cl8 (by omega)] at this
  exact this
theorem c_X5_find (hm : m ≤ 8) (key : Int32) : aRd l X mX5_find rs4 [.ref 0, .int key] (aTr tk tc te m) (.int (oI (aFo (fun j => decide (tk j = key)) m 0))) := by
  refine aMt.of (by decide) rfl (Nat.le_of_ble_eq_true rfl) ?_
  generalize hr : aFo (fun j => decide (tk j = key)) m 0 = r
  refine a_iconst 0 dX5_find_0 (by decide) ?_
  refine a_istore_n dX5_find_1 (by decide) rfl ?_
  have lp : ∀ (k j : Nat), j + k = m → aFo (fun j => decide (tk j = key)) k j = r → aJ l X mX5_find (aEd X mX5_find rs4 (fun o h' => o = .inl (some (.int (oI r))) ∧ h' = aTr tk tc te m)) 0 0 2 [.ref 0, .int key, .int (nI j)] [] (aTr tk tc te m) := by
    intro k
    induction k with
    | zero =>
      intro j hj hq
      obtain rfl : j = m := by omega
      refine a_iload_n dX5_find_2 rfl ?_
      refine a_aload_n dX5_find_3 rfl ?_
      refine a_get fl_X5_22 dX5_find_4 rfl rfl ?_
      refine a_icmp_ge 28 dX5_find_7 (by decide) (fun _ => ?_) (fun z => absurd (nI_le (Nat.le_refl j) (by omega)) z)
      refine a_iconst (-1) dX5_find_28 (by decide) ?_
      refine a_iret rfl dX5_find_29 (by decide) (by decide) ?_
      exact ⟨by rw [← hq]; rfl, rfl⟩
    | succ k ih =>
      intro j hj hq
      refine a_iload_n dX5_find_2 rfl ?_
      refine a_aload_n dX5_find_3 rfl ?_
      refine a_get fl_X5_22 dX5_find_4 rfl rfl ?_
      refine a_icmp_ge 28 dX5_find_7 (by decide) (fun z => absurd z (nI_ge (by omega) (by omega))) (fun _ => ?_)
      refine a_aload_n dX5_find_10 rfl ?_
      refine a_get fl_X5_9 dX5_find_11 rfl rfl ?_
      refine a_iload_n dX5_find_14 rfl ?_
      refine a_iald dX5_find_15 rfl (in8 (by omega)) ?_
      refine a_iload_n dX5_find_16 rfl ?_
      refine a_icmp_ne 22 dX5_find_17 (by decide) (fun c17 => ?_) (fun c17 => ?_)
      · rw [cl8 (by omega)] at c17
        refine a_iinc (nI (j + 1)) dX5_find_22 rfl (nI_1 _) (by decide) rfl ?_
        refine a_goto 2 dX5_find_25 (by decide) ?_
        exact ih (j + 1) (by omega) (by rw [← hq]; simp [aFo, c17])
      · rw [cl8 (by omega)] at c17
        refine a_iload_n dX5_find_20 rfl ?_
        refine a_iret rfl dX5_find_21 (by decide) (by decide) ?_
        exact ⟨by rw [← hq]; simp [aFo, c17, oI], rfl⟩
  exact lp m 0 (by omega) hr
theorem c_X5_append (hm : m < 8) (key : Int32) : aWr l X mX5_append rs4 [.ref 0, .int key] (aTr tk tc te m) (some (.int (nI m))) (aTr (upd tk m key) (vp_updL tc m 0) (vp_updL te m 0) (m + 1)) := by
  refine aMt.of (by decide) rfl (Nat.le_of_ble_eq_true rfl) ?_
  have hi : vp_in (nI m) 8 := in8 hm
  refine a_aload_n dX5_append_0 rfl ?_
  refine a_get fl_X5_22 dX5_append_1 rfl rfl ?_
  refine a_istore_n dX5_append_4 (by decide) rfl ?_
  refine a_iload_n dX5_append_5 rfl ?_
  refine a_if_lt 15 dX5_append_6 (by decide) (fun z => absurd z (nI_pos (by omega))) (fun _ => ?_)
  refine a_iload_n dX5_append_9 rfl ?_
  refine a_bipush 8 dX5_append_10 (by decide) ?_
  refine a_icmp_lt 17 dX5_append_12 (by decide) (fun _ => ?_) (fun z => absurd (nI_lt (b := 8) hm (by decide)) z)
  refine a_aload_n dX5_append_17 rfl ?_
  refine a_get fl_X5_9 dX5_append_18 rfl rfl ?_
  refine a_iload_n dX5_append_21 rfl ?_
  refine a_iload_n dX5_append_22 rfl ?_
  refine a_iast dX5_append_23 rfl (by assumption) ?_
  refine a_aload_n dX5_append_24 rfl ?_
  refine a_get fl_X5_15 dX5_append_25 rfl rfl ?_
  refine a_iload_n dX5_append_28 rfl ?_
  refine a_lconst 0 dX5_append_29 (by decide) ?_
  refine a_last dX5_append_30 rfl (by assumption) ?_
  refine a_aload_n dX5_append_31 rfl ?_
  refine a_get fl_X5_19 dX5_append_32 rfl rfl ?_
  refine a_iload_n dX5_append_35 rfl ?_
  refine a_lconst 0 dX5_append_36 (by decide) ?_
  refine a_last dX5_append_37 rfl (by assumption) ?_
  refine a_aload_n dX5_append_38 rfl ?_
  refine a_dup dX5_append_39 rfl ?_
  refine a_get fl_X5_22 dX5_append_40 rfl rfl ?_
  refine a_iconst 1 dX5_append_43 (by decide) ?_
  refine a_iadd dX5_append_44 ?_
  refine a_put fp_X5_22 dX5_append_45 rfl (Nat.le_of_ble_eq_true rfl) (fun _ => ⟨rfl, rfl⟩) ?_
  refine a_iload_n dX5_append_48 rfl ?_
  refine a_iret rfl dX5_append_49 (by decide) (by decide) ?_
  refine ⟨rfl, ?_⟩
  rw [cl8 hm, nI_1]
  rfl
theorem c_X5_least (hm : m ≤ 8) (h0 : 0 < m) : aRd l X mX5_least rs4 [.ref 0] (aTr tk tc te m) (.int (nI (tLs tc (m - 1)))) := by
  refine aMt.of (by decide) rfl (Nat.le_of_ble_eq_true rfl) ?_
  generalize hr : tLs tc (m - 1) = r
  refine a_aload_n dX5_least_0 rfl ?_
  refine a_get fl_X5_22 dX5_least_1 rfl rfl ?_
  refine a_iconst 1 dX5_least_4 (by decide) ?_
  refine a_isub dX5_least_5 ?_
  refine a_istore_n dX5_least_6 (by decide) rfl ?_
  have lp : ∀ (j : Nat), j < m → tLs tc j = r → aJ l X mX5_least (aEd X mX5_least rs4 (fun o h' => o = .inl (some (.int (nI r))) ∧ h' = aTr tk tc te m)) 0 0 7 [.ref 0, .int (nI j)] [] (aTr tk tc te m) := by
    intro j
    induction j with
    | zero =>
      intro hj hq
      refine a_iload_n dX5_least_7 rfl ?_
      refine a_if_le 33 dX5_least_8 (by decide) (fun _ => ?_) (fun z => absurd (by decide) z)
      refine a_iload_n dX5_least_33 rfl ?_
      refine a_iret rfl dX5_least_34 (by decide) (by decide) ?_
      exact ⟨by rw [← hq]; rfl, rfl⟩
    | succ j ih =>
      intro hj hq
      refine a_iload_n dX5_least_7 rfl ?_
      refine a_if_le 33 dX5_least_8 (by decide) (fun z => absurd z (nI_nle (by omega) (by omega))) (fun _ => ?_)
      refine a_aload_n dX5_least_11 rfl ?_
      refine a_iload_n dX5_least_12 rfl ?_
      refine a_iconst 1 dX5_least_13 (by decide) ?_
      refine a_isub dX5_least_14 ?_
      rw [nI_pred]
      refine a_VlR [0, 1, 2, 3] k_X5_least_48 (c_X5_counted_j (tk := tk) (tc := tc) (te := te) (j := j) (by omega) hm) dX5_least_15 rfl rfl rfl rfl rfl rfl (Nat.le_of_ble_eq_true rfl) ⟨Nat.le_of_ble_eq_true rfl, Nat.le_of_ble_eq_true rfl⟩ ⟨rfl, rfl⟩ ?_
      refine a_aload_n dX5_least_18 rfl ?_
      refine a_iload_n dX5_least_19 rfl ?_
      refine a_VlR [0, 1, 2, 3] k_X5_least_48 (c_X5_counted_j (tk := tk) (tc := tc) (te := te) (j := j + 1) hj hm) dX5_least_20 rfl rfl rfl rfl rfl rfl (Nat.le_of_ble_eq_true rfl) ⟨Nat.le_of_ble_eq_true rfl, Nat.le_of_ble_eq_true rfl⟩ ⟨rfl, rfl⟩ ?_
      refine a_lcmp dX5_least_23 ?_
      refine a_if_ne 33 dX5_least_24 (by decide) (fun c24 => ?_) (fun c24 => ?_)
      · rw [lg_cmp_eq] at c24
        refine a_iload_n dX5_least_33 rfl ?_
        refine a_iret rfl dX5_least_34 (by decide) (by decide) ?_
        exact ⟨by rw [← hq]; simp [tLs, c24], rfl⟩
      · rw [lg_cmp_eq] at c24
        refine a_iinc (nI j) dX5_least_27 rfl (pk_m1 _) (by decide) rfl ?_
        refine a_goto 7 dX5_least_30 (by decide) ?_
        exact ih (by omega) (by rw [← hq]; simp [tLs, c24])
  obtain ⟨z, rfl⟩ : ∃ z, m = z + 1 := ⟨m - 1, by omega⟩
  rw [nI_pred]
  exact lp z (by omega) hr
theorem c_X5_replaceLeast (hm : m ≤ 8) (h0 : 0 < m) (key : Int32) : aWr l X mX5_replaceLeast rs4 [.ref 0, .int key] (aTr tk tc te m) (some (.int (nI (tLs tc (m - 1))))) (aTr (upd tk (tLs tc (m - 1)) key) tc (vp_updL te (tLs tc (m - 1)) (tc (tLs tc (m - 1)))) m) := by
  refine aMt.of (by decide) rfl (Nat.le_of_ble_eq_true rfl) ?_
  have hi : vp_in (nI (tLs tc (m - 1))) 8 := in8 (by have := tLs_le tc (m - 1); omega)
  have hj : tLs tc (m - 1) < m := by have := tLs_le tc (m - 1); omega
  refine a_aload_n dX5_replaceLeast_0 rfl ?_
  refine a_ViR [0, 1, 2, 3] k_X5_replaceLeast_44 (c_X5_least (tk := tk) (tc := tc) (te := te) hm h0) dX5_replaceLeast_1 rfl rfl rfl rfl rfl rfl (Nat.le_of_ble_eq_true rfl) ⟨Nat.le_of_ble_eq_true rfl, Nat.le_of_ble_eq_true rfl⟩ ⟨rfl, rfl⟩ ?_
  refine a_istore_n dX5_replaceLeast_4 (by decide) rfl ?_
  refine a_aload_n dX5_replaceLeast_5 rfl ?_
  refine a_iload_n dX5_replaceLeast_6 rfl ?_
  refine a_ViR [0, 1, 2, 3] k_X5_replaceLeast_26 (c_X5_has (tk := tk) (tc := tc) (te := te) (m := m) _) dX5_replaceLeast_7 rfl rfl rfl rfl rfl rfl (Nat.le_of_ble_eq_true rfl) ⟨Nat.le_of_ble_eq_true rfl, Nat.le_of_ble_eq_true rfl⟩ ⟨rfl, rfl⟩ ?_
  refine a_if_eq 32 dX5_replaceLeast_10 (by decide) (fun c10 => ?_) (fun c10 => ?_)
  · exact absurd (bI_0 c10) (by rw [tHs_j hj hm]; decide)
  · refine a_aload_n dX5_replaceLeast_13 rfl ?_
    refine a_get fl_X5_9 dX5_replaceLeast_14 rfl rfl ?_
    refine a_iload_n dX5_replaceLeast_17 rfl ?_
    refine a_iload_n dX5_replaceLeast_18 rfl ?_
    refine a_iast dX5_replaceLeast_19 rfl (by assumption) ?_
    refine a_aload_n dX5_replaceLeast_20 rfl ?_
    refine a_get fl_X5_19 dX5_replaceLeast_21 rfl rfl ?_
    refine a_iload_n dX5_replaceLeast_24 rfl ?_
    refine a_aload_n dX5_replaceLeast_25 rfl ?_
    refine a_get fl_X5_15 dX5_replaceLeast_26 rfl rfl ?_
    refine a_iload_n dX5_replaceLeast_29 rfl ?_
    refine a_lald dX5_replaceLeast_30 rfl (by assumption) ?_
    refine a_last dX5_replaceLeast_31 rfl (by assumption) ?_
    refine a_iload_n dX5_replaceLeast_32 rfl ?_
    refine a_iret rfl dX5_replaceLeast_33 (by decide) (by decide) ?_
    refine ⟨rfl, ?_⟩
    rw [cl8 (by omega)]
    rfl
theorem c_X5_isListedBefore {a b : Nat} (ha : a < m) (hb : b < m) (hm : m ≤ 8) : aRd l X mX5_isListedBefore rs4 [.ref 0, .int (nI a), .int (nI b)] (aTr tk tc te m) (.int (bI (tLb tk tc a b))) := by
  refine aMt.of (by decide) rfl (Nat.le_of_ble_eq_true rfl) ?_
  refine a_aload_n dX5_isListedBefore_0 rfl ?_
  refine a_iload_n dX5_isListedBefore_1 rfl ?_
  refine a_VlR [0, 1, 2, 3] k_X5_isListedBefore_48 (c_X5_counted_j (tk := tk) (tc := tc) (te := te) ha hm) dX5_isListedBefore_2 rfl rfl rfl rfl rfl rfl (Nat.le_of_ble_eq_true rfl) ⟨Nat.le_of_ble_eq_true rfl, Nat.le_of_ble_eq_true rfl⟩ ⟨rfl, rfl⟩ ?_
  refine a_lstore_n dX5_isListedBefore_5 (by decide) rfl ?_
  refine a_aload_n dX5_isListedBefore_6 rfl ?_
  refine a_iload_n dX5_isListedBefore_7 rfl ?_
  refine a_VlR [0, 1, 2, 3] k_X5_isListedBefore_48 (c_X5_counted_j (tk := tk) (tc := tc) (te := te) hb hm) dX5_isListedBefore_8 rfl rfl rfl rfl rfl rfl (Nat.le_of_ble_eq_true rfl) ⟨Nat.le_of_ble_eq_true rfl, Nat.le_of_ble_eq_true rfl⟩ ⟨rfl, rfl⟩ ?_
  refine a_lstore dX5_isListedBefore_11 (by decide) rfl ?_
  refine a_lload_n dX5_isListedBefore_13 rfl ?_
  refine a_lload dX5_isListedBefore_14 rfl ?_
  refine a_lcmp dX5_isListedBefore_16 ?_
  refine a_if_gt 40 dX5_isListedBefore_17 (by decide) (fun c17 => ?_) (fun c17 => ?_)
  · rw [lg_cmp_gt] at c17
    refine a_iconst 1 dX5_isListedBefore_40 (by decide) ?_
    refine a_goto 45 dX5_isListedBefore_41 (by decide) ?_
    refine a_zret rfl rfl dX5_isListedBefore_45 (by decide) (by decide) ?_
    exact ⟨by simp [tLb, c17, bI], rfl⟩
  · rw [lg_cmp_gt] at c17
    refine a_lload_n dX5_isListedBefore_20 rfl ?_
    refine a_lload dX5_isListedBefore_21 rfl ?_
    refine a_lcmp dX5_isListedBefore_23 ?_
    refine a_if_ne 44 dX5_isListedBefore_24 (by decide) (fun c24 => ?_) (fun c24 => ?_)
    · rw [lg_cmp_eq] at c24
      refine a_iconst 0 dX5_isListedBefore_44 (by decide) ?_
      refine a_zret rfl rfl dX5_isListedBefore_45 (by decide) (by decide) ?_
      exact ⟨by simp [tLb, c17, c24, bI], rfl⟩
    · rw [lg_cmp_eq] at c24
      refine a_aload_n dX5_isListedBefore_27 rfl ?_
      refine a_iload_n dX5_isListedBefore_28 rfl ?_
      refine a_ViR [0, 1, 2, 3] k_X5_isListedBefore_60 (c_X5_key_j (tk := tk) (tc := tc) (te := te) ha hm) dX5_isListedBefore_29 rfl rfl rfl rfl rfl rfl (Nat.le_of_ble_eq_true rfl) ⟨Nat.le_of_ble_eq_true rfl, Nat.le_of_ble_eq_true rfl⟩ ⟨rfl, rfl⟩ ?_
      refine a_aload_n dX5_isListedBefore_32 rfl ?_
      refine a_iload_n dX5_isListedBefore_33 rfl ?_
      refine a_ViR [0, 1, 2, 3] k_X5_isListedBefore_60 (c_X5_key_j (tk := tk) (tc := tc) (te := te) hb hm) dX5_isListedBefore_34 rfl rfl rfl rfl rfl rfl (Nat.le_of_ble_eq_true rfl) ⟨Nat.le_of_ble_eq_true rfl, Nat.le_of_ble_eq_true rfl⟩ ⟨rfl, rfl⟩ ?_
      refine a_icmp_ge 44 dX5_isListedBefore_37 (by decide) (fun c37 => ?_) (fun c37 => ?_)
      · refine a_iconst 0 dX5_isListedBefore_44 (by decide) ?_
        refine a_zret rfl rfl dX5_isListedBefore_45 (by decide) (by decide) ?_
        exact ⟨by simp [tLb, c17, c37, bI], rfl⟩
      · refine a_iconst 1 dX5_isListedBefore_40 (by decide) ?_
        refine a_goto 45 dX5_isListedBefore_41 (by decide) ?_
        refine a_zret rfl rfl dX5_isListedBefore_45 (by decide) (by decide) ?_
        exact ⟨by simp [tLb, c24, c37, bI], rfl⟩
theorem c_X5_swap {a b : Nat} (ha : a < m) (hb : b < m) (hab : a ≠ b) (hm : m ≤ 8) : aWr l X mX5_swap rs4 [.ref 0, .int (nI a), .int (nI b)] (aTr tk tc te m) none (aTr (tSw (tk, tc, te) a b).1 (tSw (tk, tc, te) a b).2.1 (tSw (tk, tc, te) a b).2.2 m) := by
  refine aMt.of (by decide) rfl (Nat.le_of_ble_eq_true rfl) ?_
  have hi : vp_in (nI a) 8 := in8 (by omega)
  have hi2 : vp_in (nI b) 8 := in8 (by omega)
  refine a_aload_n dX5_swap_0 rfl ?_
  refine a_iload_n dX5_swap_1 rfl ?_
  refine a_ViR [0, 1, 2, 3] k_X5_swap_26 (c_X5_has (tk := tk) (tc := tc) (te := te) (m := m) _) dX5_swap_2 rfl rfl rfl rfl rfl rfl (Nat.le_of_ble_eq_true rfl) ⟨Nat.le_of_ble_eq_true rfl, Nat.le_of_ble_eq_true rfl⟩ ⟨rfl, rfl⟩ ?_
  refine a_if_eq 98 dX5_swap_5 (by decide) (fun c5 => ?_) (fun c5 => ?_)
  · exact absurd (bI_0 c5) (by rw [tHs_j ha hm]; decide)
  · refine a_aload_n dX5_swap_8 rfl ?_
    refine a_iload_n dX5_swap_9 rfl ?_
    refine a_ViR [0, 1, 2, 3] k_X5_swap_26 (c_X5_has (tk := tk) (tc := tc) (te := te) (m := m) _) dX5_swap_10 rfl rfl rfl rfl rfl rfl (Nat.le_of_ble_eq_true rfl) ⟨Nat.le_of_ble_eq_true rfl, Nat.le_of_ble_eq_true rfl⟩ ⟨rfl, rfl⟩ ?_
    refine a_if_eq 98 dX5_swap_13 (by decide) (fun c13 => ?_) (fun c13 => ?_)
    · exact absurd (bI_0 c13) (by rw [tHs_j hb hm]; decide)
    · refine a_aload_n dX5_swap_16 rfl ?_
      refine a_get fl_X5_9 dX5_swap_17 rfl rfl ?_
      refine a_iload_n dX5_swap_20 rfl ?_
      refine a_iald dX5_swap_21 rfl (by assumption) ?_
      refine a_istore_n dX5_swap_22 (by decide) rfl ?_
      refine a_aload_n dX5_swap_23 rfl ?_
      refine a_get fl_X5_15 dX5_swap_24 rfl rfl ?_
      refine a_iload_n dX5_swap_27 rfl ?_
      refine a_lald dX5_swap_28 rfl (by assumption) ?_
      refine a_lstore dX5_swap_29 (by decide) rfl ?_
      refine a_aload_n dX5_swap_31 rfl ?_
      refine a_get fl_X5_19 dX5_swap_32 rfl rfl ?_
      refine a_iload_n dX5_swap_35 rfl ?_
      refine a_lald dX5_swap_36 rfl (by assumption) ?_
      refine a_lstore dX5_swap_37 (by decide) rfl ?_
      refine a_aload_n dX5_swap_39 rfl ?_
      refine a_get fl_X5_9 dX5_swap_40 rfl rfl ?_
      refine a_iload_n dX5_swap_43 rfl ?_
      refine a_aload_n dX5_swap_44 rfl ?_
      refine a_get fl_X5_9 dX5_swap_45 rfl rfl ?_
      refine a_iload_n dX5_swap_48 rfl ?_
      refine a_iald dX5_swap_49 rfl (by assumption) ?_
      refine a_iast dX5_swap_50 rfl (by assumption) ?_
      refine a_aload_n dX5_swap_51 rfl ?_
      refine a_get fl_X5_15 dX5_swap_52 rfl rfl ?_
      refine a_iload_n dX5_swap_55 rfl ?_
      refine a_aload_n dX5_swap_56 rfl ?_
      refine a_get fl_X5_15 dX5_swap_57 rfl rfl ?_
      refine a_iload_n dX5_swap_60 rfl ?_
      refine a_lald dX5_swap_61 rfl (by assumption) ?_
      refine a_last dX5_swap_62 rfl (by assumption) ?_
      refine a_aload_n dX5_swap_63 rfl ?_
      refine a_get fl_X5_19 dX5_swap_64 rfl rfl ?_
      refine a_iload_n dX5_swap_67 rfl ?_
      refine a_aload_n dX5_swap_68 rfl ?_
      refine a_get fl_X5_19 dX5_swap_69 rfl rfl ?_
      refine a_iload_n dX5_swap_72 rfl ?_
      refine a_lald dX5_swap_73 rfl (by assumption) ?_
      refine a_last dX5_swap_74 rfl (by assumption) ?_
      refine a_aload_n dX5_swap_75 rfl ?_
      refine a_get fl_X5_9 dX5_swap_76 rfl rfl ?_
      refine a_iload_n dX5_swap_79 rfl ?_
      refine a_iload_n dX5_swap_80 rfl ?_
      refine a_iast dX5_swap_81 rfl (by assumption) ?_
      refine a_aload_n dX5_swap_82 rfl ?_
      refine a_get fl_X5_15 dX5_swap_83 rfl rfl ?_
      refine a_iload_n dX5_swap_86 rfl ?_
      refine a_lload dX5_swap_87 rfl ?_
      refine a_last dX5_swap_89 rfl (by assumption) ?_
      refine a_aload_n dX5_swap_90 rfl ?_
      refine a_get fl_X5_19 dX5_swap_91 rfl rfl ?_
      refine a_iload_n dX5_swap_94 rfl ?_
      refine a_lload dX5_swap_95 rfl ?_
      refine a_last dX5_swap_97 rfl (by assumption) ?_
      refine a_vret rfl dX5_swap_98 (by decide) (by decide) ?_
      refine ⟨rfl, ?_⟩
      rw [cl8 (show a < 8 by omega), cl8 (show b < 8 by omega)]
      rfl
theorem c_X5_moveForward {i : Nat} (hi : i < m) (hm : m ≤ 8) : aWr l X mX5_moveForward rs4 [.ref 0, .int (nI i)] (aTr tk tc te m) none (aTr (tMv i (tk, tc, te)).1 (tMv i (tk, tc, te)).2.1 (tMv i (tk, tc, te)).2.2 m) := by
  refine aMt.of (by decide) rfl (Nat.le_of_ble_eq_true rfl) ?_
  generalize hr : tMv i (tk, tc, te) = r
  refine a_iload_n dX5_moveForward_0 rfl ?_
  refine a_istore_n dX5_moveForward_1 (by decide) rfl ?_
  have lp : ∀ (j : Nat) (σ : tT), j < m → tMv j σ = r → aJ l X mX5_moveForward (aEd X mX5_moveForward rs4 (fun o h' => o = .inl none ∧ h' = aTr r.1 r.2.1 r.2.2 m)) 0 0 2 [.ref 0, .int (nI i), .int (nI j)] [] (aTr σ.1 σ.2.1 σ.2.2 m) := by
    intro j
    induction j with
    | zero =>
      intro σ hj hq
      refine a_iload_n dX5_moveForward_2 rfl ?_
      refine a_if_le 31 dX5_moveForward_3 (by decide) (fun _ => ?_) (fun z => absurd (by decide) z)
      refine a_vret rfl dX5_moveForward_31 (by decide) (by decide) ?_
      exact ⟨rfl, by rw [← hq]; rfl⟩
    | succ j ih =>
      intro σ hj hq
      refine a_iload_n dX5_moveForward_2 rfl ?_
      refine a_if_le 31 dX5_moveForward_3 (by decide) (fun z => absurd z (nI_nle (by omega) (by omega))) (fun _ => ?_)
      refine a_aload_n dX5_moveForward_6 rfl ?_
      refine a_iload_n dX5_moveForward_7 rfl ?_
      refine a_iload_n dX5_moveForward_8 rfl ?_
      refine a_iconst 1 dX5_moveForward_9 (by decide) ?_
      refine a_isub dX5_moveForward_10 ?_
      rw [nI_pred]
      refine a_ViR [0, 1, 2, 3] k_X5_moveForward_52 (c_X5_isListedBefore (tk := σ.1) (tc := σ.2.1) (te := σ.2.2) hj (show j < m by omega) hm) dX5_moveForward_11 rfl rfl rfl rfl rfl rfl (Nat.le_of_ble_eq_true rfl) ⟨Nat.le_of_ble_eq_true rfl, Nat.le_of_ble_eq_true rfl⟩ ⟨rfl, rfl⟩ ?_
      refine a_if_eq 31 dX5_moveForward_14 (by decide) (fun c14 => ?_) (fun c14 => ?_)
      · refine a_vret rfl dX5_moveForward_31 (by decide) (by decide) ?_
        exact ⟨rfl, by rw [← hq]; simp [tMv, bI_0 c14]⟩
      · refine a_aload_n dX5_moveForward_17 rfl ?_
        refine a_iload_n dX5_moveForward_18 rfl ?_
        refine a_iload_n dX5_moveForward_19 rfl ?_
        refine a_iconst 1 dX5_moveForward_20 (by decide) ?_
        refine a_isub dX5_moveForward_21 ?_
        rw [nI_pred]
        refine a_VvW [0, 1, 2, 3] (aTr (tSw σ (j + 1) j).1 (tSw σ (j + 1) j).2.1 (tSw σ (j + 1) j).2.2 m) k_X5_moveForward_56 (c_X5_swap (tk := σ.1) (tc := σ.2.1) (te := σ.2.2) hj (show j < m by omega) (by omega) hm) dX5_moveForward_22 rfl rfl rfl rfl rfl rfl (Nat.le_of_ble_eq_true rfl) ⟨Nat.le_of_ble_eq_true rfl, Nat.le_of_ble_eq_true rfl⟩ ⟨rfl, rfl⟩ (Nat.le_of_ble_eq_true rfl) rfl ?_
        refine a_iinc (nI j) dX5_moveForward_25 rfl (pk_m1 _) (by decide) rfl ?_
        refine a_goto 2 dX5_moveForward_28 (by decide) ?_
        exact ih (tSw σ (j + 1) j) (by omega) (by rw [← hq]; simp [tMv, bI_1 c14])
  exact lp i (tk, tc, te) hi hr
/-- what counting n requests with a key does -/
def tAd (n : Int32) (i : Nat) (σ : tT) : tT := tMv i (σ.1, vp_updL σ.2.1 i (σ.2.1 i + n.toInt64), σ.2.2)
def tCt (key n : Int32) (σ : tT) (m : Nat) : tT × Nat := match aFo (fun j => decide (σ.1 j = key)) m 0 with
  | some i => (tAd n i σ, m)
  | none => if m < 8 then (tAd n m (upd σ.1 m key, vp_updL σ.2.1 m 0, vp_updL σ.2.2 m 0), m + 1) else (tAd n (tLs σ.2.1 (m - 1)) (upd σ.1 (tLs σ.2.1 (m - 1)) key, σ.2.1, vp_updL σ.2.2 (tLs σ.2.1 (m - 1)) (σ.2.1 (tLs σ.2.1 (m - 1)))), m)
theorem c_X5_count_end {i : Nat} (hi : i < m) (hm : m ≤ 8) (key n : Int32) {L0 : List Value} : aJ l X mX5_count (aEd X mX5_count rs4 (fun o h' => o = .inl none ∧ h' = aTr (tAd n i (tk, tc, te)).1 (tAd n i (tk, tc, te)).2.1 (tAd n i (tk, tc, te)).2.2 m)) 0 0 34 [.ref 0, .int key, .int n, .int (nI i)] [] (aTr tk tc te m) := by
  have hv : vp_in (nI i) 8 := in8 (by omega)
  refine a_aload_n dX5_count_34 rfl ?_
  refine a_iload_n dX5_count_35 rfl ?_
  refine a_ViR [0, 1, 2, 3] k_X5_count_26 (c_X5_has (tk := tk) (tc := tc) (te := te) (m := m) _) dX5_count_36 rfl rfl rfl rfl rfl rfl (Nat.le_of_ble_eq_true rfl) ⟨Nat.le_of_ble_eq_true rfl, Nat.le_of_ble_eq_true rfl⟩ ⟨rfl, rfl⟩ ?_
  refine a_if_eq 58 dX5_count_39 (by decide) (fun c39 => ?_) (fun c39 => ?_)
  · exact absurd (bI_0 c39) (by rw [tHs_j hi hm]; decide)
  · refine a_aload_n dX5_count_42 rfl ?_
    refine a_get fl_X5_15 dX5_count_43 rfl rfl ?_
    refine a_iload_n dX5_count_46 rfl ?_
    refine a_dup2 dX5_count_47 rfl rfl ?_
    refine a_lald dX5_count_48 rfl (by assumption) ?_
    refine a_iload_n dX5_count_49 rfl ?_
    refine a_i2l dX5_count_50 ?_
    refine a_ladd dX5_count_51 ?_
    refine a_last dX5_count_52 rfl (by assumption) ?_
    rw [cl8 (by omega)]
    refine a_aload_n dX5_count_53 rfl ?_
    refine a_iload_n dX5_count_54 rfl ?_
    refine a_VvW [0, 1, 2, 3] (aTr (tAd n i (tk, tc, te)).1 (tAd n i (tk, tc, te)).2.1 (tAd n i (tk, tc, te)).2.2 m) k_X5_count_40 (c_X5_moveForward (tk := tk) (tc := vp_updL tc i (tc i + n.toInt64)) (te := te) hi hm) dX5_count_55 rfl rfl rfl rfl rfl rfl (Nat.le_of_ble_eq_true rfl) ⟨Nat.le_of_ble_eq_true rfl, Nat.le_of_ble_eq_true rfl⟩ ⟨rfl, rfl⟩ (Nat.le_of_ble_eq_true rfl) rfl ?_
    refine a_vret rfl dX5_count_58 (by decide) (by decide) ?_
    exact ⟨rfl, rfl⟩
theorem c_X5_count (hm : m ≤ 8) (key n : Int32) : aWr l X mX5_count rs4 [.ref 0, .int key, .int n] (aTr tk tc te m) none (aTr (tCt key n (tk, tc, te) m).1.1 (tCt key n (tk, tc, te) m).1.2.1 (tCt key n (tk, tc, te) m).1.2.2 (tCt key n (tk, tc, te) m).2) := by
  refine aMt.of (by decide) rfl (Nat.le_of_ble_eq_true rfl) ?_
  cases hf : aFo (fun j => decide (tk j = key)) m 0 with
  | some i =>
    have hi := (aFo_some hf).2.1
    have hfd := c_X5_find (l := l) (X := X) (tk := tk) (tc := tc) (te := te) hm key
    rw [hf] at hfd
    have hr : tCt key n (tk, tc, te) m = (tAd n i (tk, tc, te), m) := by simp [tCt, hf]
    rw [hr]
    refine a_aload_n dX5_count_0 rfl ?_
    refine a_iload_n dX5_count_1 rfl ?_
    refine a_ViR [0, 1, 2, 3] k_X5_count_30 (hfd) dX5_count_2 rfl rfl rfl rfl rfl rfl (Nat.le_of_ble_eq_true rfl) ⟨Nat.le_of_ble_eq_true rfl, Nat.le_of_ble_eq_true rfl⟩ ⟨rfl, rfl⟩ ?_
    refine a_istore_n dX5_count_5 (by decide) rfl ?_
    refine a_iload_n dX5_count_6 rfl ?_
    refine a_iconst (-1) dX5_count_7 (by decide) ?_
    refine a_icmp_ne 34 dX5_count_8 (by decide) (fun _ => ?_) (fun z => absurd z (nI_m1 (by omega)))
    exact c_X5_count_end (L0 := []) (by omega) hm key n
  | none =>
    have hfd := c_X5_find (l := l) (X := X) (tk := tk) (tc := tc) (te := te) hm key
    rw [hf] at hfd
    rcases Nat.lt_or_ge m 8 with h8 | h8
    · have hr : tCt key n (tk, tc, te) m = (tAd n m (upd tk m key, vp_updL tc m 0, vp_updL te m 0), m + 1) := by simp [tCt, hf, h8]
      rw [hr]
      refine a_aload_n dX5_count_0 rfl ?_
      refine a_iload_n dX5_count_1 rfl ?_
      refine a_ViR [0, 1, 2, 3] k_X5_count_30 (hfd) dX5_count_2 rfl rfl rfl rfl rfl rfl (Nat.le_of_ble_eq_true rfl) ⟨Nat.le_of_ble_eq_true rfl, Nat.le_of_ble_eq_true rfl⟩ ⟨rfl, rfl⟩ ?_
      refine a_istore_n dX5_count_5 (by decide) rfl ?_
      refine a_iload_n dX5_count_6 rfl ?_
      refine a_iconst (-1) dX5_count_7 (by decide) ?_
      refine a_icmp_ne 34 dX5_count_8 (by decide) (fun z => absurd rfl z) (fun _ => ?_)
      refine a_aload_n dX5_count_11 rfl ?_
      refine a_get fl_X5_22 dX5_count_12 rfl rfl ?_
      refine a_bipush 8 dX5_count_15 (by decide) ?_
      refine a_icmp_ge 28 dX5_count_17 (by decide) (fun z => absurd z (ge8_f h8)) (fun _ => ?_)
      refine a_aload_n dX5_count_20 rfl ?_
      refine a_iload_n dX5_count_21 rfl ?_
      refine a_ViW [0, 1, 2, 3] (aTr (upd tk m key) (vp_updL tc m 0) (vp_updL te m 0) (m + 1)) k_X5_count_34 (c_X5_append (tk := tk) (tc := tc) (te := te) h8 key) dX5_count_22 rfl rfl rfl rfl rfl rfl (Nat.le_of_ble_eq_true rfl) ⟨Nat.le_of_ble_eq_true rfl, Nat.le_of_ble_eq_true rfl⟩ ⟨rfl, rfl⟩ (Nat.le_of_ble_eq_true rfl) rfl ?_
      refine a_goto 33 dX5_count_25 (by decide) ?_
      refine a_istore_n dX5_count_33 (by decide) rfl ?_
      exact c_X5_count_end (L0 := []) (by omega) (by omega) key n
    · obtain rfl : m = 8 := by omega
      have hr : tCt key n (tk, tc, te) 8 = (tAd n (tLs tc 7) (upd tk (tLs tc 7) key, tc, vp_updL te (tLs tc 7) (tc (tLs tc 7))), 8) := by simp [tCt, hf]
      rw [hr]
      have hl := tLs_le tc 7
      refine a_aload_n dX5_count_0 rfl ?_
      refine a_iload_n dX5_count_1 rfl ?_
      refine a_ViR [0, 1, 2, 3] k_X5_count_30 (hfd) dX5_count_2 rfl rfl rfl rfl rfl rfl (Nat.le_of_ble_eq_true rfl) ⟨Nat.le_of_ble_eq_true rfl, Nat.le_of_ble_eq_true rfl⟩ ⟨rfl, rfl⟩ ?_
      refine a_istore_n dX5_count_5 (by decide) rfl ?_
      refine a_iload_n dX5_count_6 rfl ?_
      refine a_iconst (-1) dX5_count_7 (by decide) ?_
      refine a_icmp_ne 34 dX5_count_8 (by decide) (fun z => absurd rfl z) (fun _ => ?_)
      refine a_aload_n dX5_count_11 rfl ?_
      refine a_get fl_X5_22 dX5_count_12 rfl rfl ?_
      refine a_bipush 8 dX5_count_15 (by decide) ?_
      refine a_icmp_ge 28 dX5_count_17 (by decide) (fun _ => ?_) (fun z => absurd (by decide) z)
      refine a_aload_n dX5_count_28 rfl ?_
      refine a_iload_n dX5_count_29 rfl ?_
      refine a_ViW [0, 1, 2, 3] (aTr (upd tk (tLs tc 7) key) tc (vp_updL te (tLs tc 7) (tc (tLs tc 7))) 8) k_X5_count_37 (c_X5_replaceLeast (tk := tk) (tc := tc) (te := te) (by decide) (by decide) key) dX5_count_30 rfl rfl rfl rfl rfl rfl (Nat.le_of_ble_eq_true rfl) ⟨Nat.le_of_ble_eq_true rfl, Nat.le_of_ble_eq_true rfl⟩ ⟨rfl, rfl⟩ (Nat.le_of_ble_eq_true rfl) rfl ?_
      refine a_istore_n dX5_count_33 (by decide) rfl ?_
      exact c_X5_count_end (L0 := []) (by omega) (by omega) key n
end TRK
end
section
/-! written by wip/whole/pp.py out of wip/whole/src/18.slots.lean -/
theorem dX3_size_0 : decode cX3_size 0 = .ok (.aload_n 0, 1) := by decide +kernel
theorem dX3_size_1 : decode cX3_size 1 = .ok (.getfield 31, 3) := by decide +kernel
theorem dX3_size_4 : decode cX3_size 4 = .ok (.ireturn, 1) := by decide +kernel
theorem dX3_isSlot_0 : decode cX3_isSlot 0 = .ok (.iload_n 1, 1) := by decide +kernel
theorem dX3_isSlot_1 : decode cX3_isSlot 1 = .ok (.ifCond .lt 15, 3) := by decide +kernel
theorem dX3_isSlot_4 : decode cX3_isSlot 4 = .ok (.iload_n 1, 1) := by decide +kernel
theorem dX3_isSlot_5 : decode cX3_isSlot 5 = .ok (.aload_n 0, 1) := by decide +kernel
theorem dX3_isSlot_6 : decode cX3_isSlot 6 = .ok (.getfield 31, 3) := by decide +kernel
theorem dX3_isSlot_9 : decode cX3_isSlot 9 = .ok (.if_icmp .ge 7, 3) := by decide +kernel
theorem dX3_isSlot_12 : decode cX3_isSlot 12 = .ok (.iconst 1, 1) := by decide +kernel
theorem dX3_isSlot_13 : decode cX3_isSlot 13 = .ok (.goto 4, 3) := by decide +kernel
theorem dX3_isSlot_16 : decode cX3_isSlot 16 = .ok (.iconst 0, 1) := by decide +kernel
theorem dX3_isSlot_17 : decode cX3_isSlot 17 = .ok (.ireturn, 1) := by decide +kernel
theorem dX3_owner_0 : decode cX3_owner 0 = .ok (.aload_n 0, 1) := by decide +kernel
theorem dX3_owner_1 : decode cX3_owner 1 = .ok (.iload_n 1, 1) := by decide +kernel
theorem dX3_owner_2 : decode cX3_owner 2 = .ok (.invokevirtual 47, 3) := by decide +kernel
theorem dX3_owner_5 : decode cX3_owner 5 = .ok (.ifCond .eq 12, 3) := by decide +kernel
theorem dX3_owner_8 : decode cX3_owner 8 = .ok (.aload_n 0, 1) := by decide +kernel
theorem dX3_owner_9 : decode cX3_owner 9 = .ok (.getfield 9, 3) := by decide +kernel
theorem dX3_owner_12 : decode cX3_owner 12 = .ok (.iload_n 1, 1) := by decide +kernel
theorem dX3_owner_13 : decode cX3_owner 13 = .ok (.iaload, 1) := by decide +kernel
theorem dX3_owner_14 : decode cX3_owner 14 = .ok (.goto 4, 3) := by decide +kernel
theorem dX3_owner_17 : decode cX3_owner 17 = .ok (.iconst (-1), 1) := by decide +kernel
theorem dX3_owner_18 : decode cX3_owner 18 = .ok (.ireturn, 1) := by decide +kernel
theorem dX3_changedSlots_0 : decode cX3_changedSlots 0 = .ok (.aload_n 0, 1) := by decide +kernel
theorem dX3_changedSlots_1 : decode cX3_changedSlots 1 = .ok (.getfield 41, 3) := by decide +kernel
theorem dX3_changedSlots_4 : decode cX3_changedSlots 4 = .ok (.ireturn, 1) := by decide +kernel
theorem dX3_forcedSlots_0 : decode cX3_forcedSlots 0 = .ok (.aload_n 0, 1) := by decide +kernel
theorem dX3_forcedSlots_1 : decode cX3_forcedSlots 1 = .ok (.getfield 44, 3) := by decide +kernel
theorem dX3_forcedSlots_4 : decode cX3_forcedSlots 4 = .ok (.ireturn, 1) := by decide +kernel
theorem dX3_ownedBy_0 : decode cX3_ownedBy 0 = .ok (.iconst 0, 1) := by decide +kernel
theorem dX3_ownedBy_1 : decode cX3_ownedBy 1 = .ok (.istore_n 2, 1) := by decide +kernel
theorem dX3_ownedBy_2 : decode cX3_ownedBy 2 = .ok (.iconst 0, 1) := by decide +kernel
theorem dX3_ownedBy_3 : decode cX3_ownedBy 3 = .ok (.istore_n 3, 1) := by decide +kernel
theorem dX3_ownedBy_4 : decode cX3_ownedBy 4 = .ok (.iload_n 3, 1) := by decide +kernel
theorem dX3_ownedBy_5 : decode cX3_ownedBy 5 = .ok (.aload_n 0, 1) := by decide +kernel
theorem dX3_ownedBy_6 : decode cX3_ownedBy 6 = .ok (.getfield 31, 3) := by decide +kernel
theorem dX3_ownedBy_9 : decode cX3_ownedBy 9 = .ok (.if_icmp .ge 22, 3) := by decide +kernel
theorem dX3_ownedBy_12 : decode cX3_ownedBy 12 = .ok (.aload_n 0, 1) := by decide +kernel
theorem dX3_ownedBy_13 : decode cX3_ownedBy 13 = .ok (.getfield 9, 3) := by decide +kernel
theorem dX3_ownedBy_16 : decode cX3_ownedBy 16 = .ok (.iload_n 3, 1) := by decide +kernel
theorem dX3_ownedBy_17 : decode cX3_ownedBy 17 = .ok (.iaload, 1) := by decide +kernel
theorem dX3_ownedBy_18 : decode cX3_ownedBy 18 = .ok (.iload_n 1, 1) := by decide +kernel
theorem dX3_ownedBy_19 : decode cX3_ownedBy 19 = .ok (.if_icmp .ne 6, 3) := by decide +kernel
theorem dX3_ownedBy_22 : decode cX3_ownedBy 22 = .ok (.iinc 2 1, 3) := by decide +kernel
theorem dX3_ownedBy_25 : decode cX3_ownedBy 25 = .ok (.iinc 3 1, 3) := by decide +kernel
theorem dX3_ownedBy_28 : decode cX3_ownedBy 28 = .ok (.goto (-24), 3) := by decide +kernel
theorem dX3_ownedBy_31 : decode cX3_ownedBy 31 = .ok (.iload_n 2, 1) := by decide +kernel
theorem dX3_ownedBy_32 : decode cX3_ownedBy 32 = .ok (.ireturn, 1) := by decide +kernel
theorem dX3_slotOfKey_0 : decode cX3_slotOfKey 0 = .ok (.ldc2_w 51, 3) := by decide +kernel
theorem dX3_slotOfKey_3 : decode cX3_slotOfKey 3 = .ok (.iload_n 1, 1) := by decide +kernel
theorem dX3_slotOfKey_4 : decode cX3_slotOfKey 4 = .ok (.i2l, 1) := by decide +kernel
theorem dX3_slotOfKey_5 : decode cX3_slotOfKey 5 = .ok (.lmul, 1) := by decide +kernel
theorem dX3_slotOfKey_6 : decode cX3_slotOfKey 6 = .ok (.ldc2_w 53, 3) := by decide +kernel
theorem dX3_slotOfKey_9 : decode cX3_slotOfKey 9 = .ok (.ladd, 1) := by decide +kernel
theorem dX3_slotOfKey_10 : decode cX3_slotOfKey 10 = .ok (.ldc2_w 55, 3) := by decide +kernel
theorem dX3_slotOfKey_13 : decode cX3_slotOfKey 13 = .ok (.lrem, 1) := by decide +kernel
theorem dX3_slotOfKey_14 : decode cX3_slotOfKey 14 = .ok (.aload_n 0, 1) := by decide +kernel
theorem dX3_slotOfKey_15 : decode cX3_slotOfKey 15 = .ok (.getfield 31, 3) := by decide +kernel
theorem dX3_slotOfKey_18 : decode cX3_slotOfKey 18 = .ok (.invokestatic 57, 3) := by decide +kernel
theorem dX3_slotOfKey_21 : decode cX3_slotOfKey 21 = .ok (.ireturn, 1) := by decide +kernel
theorem dX3_preferredSlot_0 : decode cX3_preferredSlot 0 = .ok (.bipush 31, 2) := by decide +kernel
theorem dX3_preferredSlot_2 : decode cX3_preferredSlot 2 = .ok (.iload_n 1, 1) := by decide +kernel
theorem dX3_preferredSlot_3 : decode cX3_preferredSlot 3 = .ok (.imul, 1) := by decide +kernel
theorem dX3_preferredSlot_4 : decode cX3_preferredSlot 4 = .ok (.bipush 7, 2) := by decide +kernel
theorem dX3_preferredSlot_6 : decode cX3_preferredSlot 6 = .ok (.iadd, 1) := by decide +kernel
theorem dX3_preferredSlot_7 : decode cX3_preferredSlot 7 = .ok (.i2l, 1) := by decide +kernel
theorem dX3_preferredSlot_8 : decode cX3_preferredSlot 8 = .ok (.aload_n 0, 1) := by decide +kernel
theorem dX3_preferredSlot_9 : decode cX3_preferredSlot 9 = .ok (.getfield 31, 3) := by decide +kernel
theorem dX3_preferredSlot_12 : decode cX3_preferredSlot 12 = .ok (.invokestatic 57, 3) := by decide +kernel
theorem dX3_preferredSlot_15 : decode cX3_preferredSlot 15 = .ok (.istore_n 3, 1) := by decide +kernel
theorem dX3_preferredSlot_16 : decode cX3_preferredSlot 16 = .ok (.bipush 17, 2) := by decide +kernel
theorem dX3_preferredSlot_18 : decode cX3_preferredSlot 18 = .ok (.iload_n 1, 1) := by decide +kernel
theorem dX3_preferredSlot_19 : decode cX3_preferredSlot 19 = .ok (.imul, 1) := by decide +kernel
theorem dX3_preferredSlot_20 : decode cX3_preferredSlot 20 = .ok (.iconst 3, 1) := by decide +kernel
theorem dX3_preferredSlot_21 : decode cX3_preferredSlot 21 = .ok (.iadd, 1) := by decide +kernel
theorem dX3_preferredSlot_22 : decode cX3_preferredSlot 22 = .ok (.i2l, 1) := by decide +kernel
theorem dX3_preferredSlot_23 : decode cX3_preferredSlot 23 = .ok (.aload_n 0, 1) := by decide +kernel
theorem dX3_preferredSlot_24 : decode cX3_preferredSlot 24 = .ok (.getfield 31, 3) := by decide +kernel
theorem dX3_preferredSlot_27 : decode cX3_preferredSlot 27 = .ok (.iconst 1, 1) := by decide +kernel
theorem dX3_preferredSlot_28 : decode cX3_preferredSlot 28 = .ok (.isub, 1) := by decide +kernel
theorem dX3_preferredSlot_29 : decode cX3_preferredSlot 29 = .ok (.invokestatic 57, 3) := by decide +kernel
theorem dX3_preferredSlot_32 : decode cX3_preferredSlot 32 = .ok (.iconst 1, 1) := by decide +kernel
theorem dX3_preferredSlot_33 : decode cX3_preferredSlot 33 = .ok (.iadd, 1) := by decide +kernel
theorem dX3_preferredSlot_34 : decode cX3_preferredSlot 34 = .ok (.istore 4, 2) := by decide +kernel
theorem dX3_preferredSlot_36 : decode cX3_preferredSlot 36 = .ok (.iload_n 3, 1) := by decide +kernel
theorem dX3_preferredSlot_37 : decode cX3_preferredSlot 37 = .ok (.iload_n 2, 1) := by decide +kernel
theorem dX3_preferredSlot_38 : decode cX3_preferredSlot 38 = .ok (.iload 4, 2) := by decide +kernel
theorem dX3_preferredSlot_40 : decode cX3_preferredSlot 40 = .ok (.imul, 1) := by decide +kernel
theorem dX3_preferredSlot_41 : decode cX3_preferredSlot 41 = .ok (.iadd, 1) := by decide +kernel
theorem dX3_preferredSlot_42 : decode cX3_preferredSlot 42 = .ok (.i2l, 1) := by decide +kernel
theorem dX3_preferredSlot_43 : decode cX3_preferredSlot 43 = .ok (.aload_n 0, 1) := by decide +kernel
theorem dX3_preferredSlot_44 : decode cX3_preferredSlot 44 = .ok (.getfield 31, 3) := by decide +kernel
theorem dX3_preferredSlot_47 : decode cX3_preferredSlot 47 = .ok (.invokestatic 57, 3) := by decide +kernel
theorem dX3_preferredSlot_50 : decode cX3_preferredSlot 50 = .ok (.ireturn, 1) := by decide +kernel
theorem dX3_countChanged_0 : decode cX3_countChanged 0 = .ok (.iconst 0, 1) := by decide +kernel
theorem dX3_countChanged_1 : decode cX3_countChanged 1 = .ok (.istore_n 1, 1) := by decide +kernel
theorem dX3_countChanged_2 : decode cX3_countChanged 2 = .ok (.iconst 0, 1) := by decide +kernel
theorem dX3_countChanged_3 : decode cX3_countChanged 3 = .ok (.istore_n 2, 1) := by decide +kernel
theorem dX3_countChanged_4 : decode cX3_countChanged 4 = .ok (.iload_n 2, 1) := by decide +kernel
theorem dX3_countChanged_5 : decode cX3_countChanged 5 = .ok (.aload_n 0, 1) := by decide +kernel
theorem dX3_countChanged_6 : decode cX3_countChanged 6 = .ok (.getfield 31, 3) := by decide +kernel
theorem dX3_countChanged_9 : decode cX3_countChanged 9 = .ok (.if_icmp .ge 27, 3) := by decide +kernel
theorem dX3_countChanged_12 : decode cX3_countChanged 12 = .ok (.aload_n 0, 1) := by decide +kernel
theorem dX3_countChanged_13 : decode cX3_countChanged 13 = .ok (.getfield 9, 3) := by decide +kernel
theorem dX3_countChanged_16 : decode cX3_countChanged 16 = .ok (.iload_n 2, 1) := by decide +kernel
theorem dX3_countChanged_17 : decode cX3_countChanged 17 = .ok (.iaload, 1) := by decide +kernel
theorem dX3_countChanged_18 : decode cX3_countChanged 18 = .ok (.aload_n 0, 1) := by decide +kernel
theorem dX3_countChanged_19 : decode cX3_countChanged 19 = .ok (.getfield 15, 3) := by decide +kernel
theorem dX3_countChanged_22 : decode cX3_countChanged 22 = .ok (.iload_n 2, 1) := by decide +kernel
theorem dX3_countChanged_23 : decode cX3_countChanged 23 = .ok (.iaload, 1) := by decide +kernel
theorem dX3_countChanged_24 : decode cX3_countChanged 24 = .ok (.if_icmp .eq 6, 3) := by decide +kernel
theorem dX3_countChanged_27 : decode cX3_countChanged 27 = .ok (.iinc 1 1, 3) := by decide +kernel
theorem dX3_countChanged_30 : decode cX3_countChanged 30 = .ok (.iinc 2 1, 3) := by decide +kernel
theorem dX3_countChanged_33 : decode cX3_countChanged 33 = .ok (.goto (-29), 3) := by decide +kernel
theorem dX3_countChanged_36 : decode cX3_countChanged 36 = .ok (.iload_n 1, 1) := by decide +kernel
theorem dX3_countChanged_37 : decode cX3_countChanged 37 = .ok (.ireturn, 1) := by decide +kernel
theorem dX3_countForced_0 : decode cX3_countForced 0 = .ok (.iconst 0, 1) := by decide +kernel
theorem dX3_countForced_1 : decode cX3_countForced 1 = .ok (.istore_n 2, 1) := by decide +kernel
theorem dX3_countForced_2 : decode cX3_countForced 2 = .ok (.iconst 0, 1) := by decide +kernel
theorem dX3_countForced_3 : decode cX3_countForced 3 = .ok (.istore_n 3, 1) := by decide +kernel
theorem dX3_countForced_4 : decode cX3_countForced 4 = .ok (.iload_n 3, 1) := by decide +kernel
theorem dX3_countForced_5 : decode cX3_countForced 5 = .ok (.aload_n 0, 1) := by decide +kernel
theorem dX3_countForced_6 : decode cX3_countForced 6 = .ok (.getfield 31, 3) := by decide +kernel
theorem dX3_countForced_9 : decode cX3_countForced 9 = .ok (.if_icmp .ge 25, 3) := by decide +kernel
theorem dX3_countForced_12 : decode cX3_countForced 12 = .ok (.aload_n 1, 1) := by decide +kernel
theorem dX3_countForced_13 : decode cX3_countForced 13 = .ok (.aload_n 0, 1) := by decide +kernel
theorem dX3_countForced_14 : decode cX3_countForced 14 = .ok (.getfield 9, 3) := by decide +kernel
theorem dX3_countForced_17 : decode cX3_countForced 17 = .ok (.iload_n 3, 1) := by decide +kernel
theorem dX3_countForced_18 : decode cX3_countForced 18 = .ok (.iaload, 1) := by decide +kernel
theorem dX3_countForced_19 : decode cX3_countForced 19 = .ok (.invokevirtual 73, 3) := by decide +kernel
theorem dX3_countForced_22 : decode cX3_countForced 22 = .ok (.ifCond .ne 6, 3) := by decide +kernel
theorem dX3_countForced_25 : decode cX3_countForced 25 = .ok (.iinc 2 1, 3) := by decide +kernel
theorem dX3_countForced_28 : decode cX3_countForced 28 = .ok (.iinc 3 1, 3) := by decide +kernel
theorem dX3_countForced_31 : decode cX3_countForced 31 = .ok (.goto (-27), 3) := by decide +kernel
theorem dX3_countForced_34 : decode cX3_countForced 34 = .ok (.iload_n 2, 1) := by decide +kernel
theorem dX3_countForced_35 : decode cX3_countForced 35 = .ok (.ireturn, 1) := by decide +kernel
theorem dX3_hasTurn_0 : decode cX3_hasTurn 0 = .ok (.iload_n 2, 1) := by decide +kernel
theorem dX3_hasTurn_1 : decode cX3_hasTurn 1 = .ok (.ifCond .le 22, 3) := by decide +kernel
theorem dX3_hasTurn_4 : decode cX3_hasTurn 4 = .ok (.iload_n 0, 1) := by decide +kernel
theorem dX3_hasTurn_5 : decode cX3_hasTurn 5 = .ok (.iload_n 1, 1) := by decide +kernel
theorem dX3_hasTurn_6 : decode cX3_hasTurn 6 = .ok (.imul, 1) := by decide +kernel
theorem dX3_hasTurn_7 : decode cX3_hasTurn 7 = .ok (.iload_n 2, 1) := by decide +kernel
theorem dX3_hasTurn_8 : decode cX3_hasTurn 8 = .ok (.idiv, 1) := by decide +kernel
theorem dX3_hasTurn_9 : decode cX3_hasTurn 9 = .ok (.iload_n 0, 1) := by decide +kernel
theorem dX3_hasTurn_10 : decode cX3_hasTurn 10 = .ok (.iconst 1, 1) := by decide +kernel
theorem dX3_hasTurn_11 : decode cX3_hasTurn 11 = .ok (.isub, 1) := by decide +kernel
theorem dX3_hasTurn_12 : decode cX3_hasTurn 12 = .ok (.iload_n 1, 1) := by decide +kernel
theorem dX3_hasTurn_13 : decode cX3_hasTurn 13 = .ok (.imul, 1) := by decide +kernel
theorem dX3_hasTurn_14 : decode cX3_hasTurn 14 = .ok (.iload_n 2, 1) := by decide +kernel
theorem dX3_hasTurn_15 : decode cX3_hasTurn 15 = .ok (.idiv, 1) := by decide +kernel
theorem dX3_hasTurn_16 : decode cX3_hasTurn 16 = .ok (.if_icmp .le 7, 3) := by decide +kernel
theorem dX3_hasTurn_19 : decode cX3_hasTurn 19 = .ok (.iconst 1, 1) := by decide +kernel
theorem dX3_hasTurn_20 : decode cX3_hasTurn 20 = .ok (.goto 4, 3) := by decide +kernel
theorem dX3_hasTurn_23 : decode cX3_hasTurn 23 = .ok (.iconst 0, 1) := by decide +kernel
theorem dX3_hasTurn_24 : decode cX3_hasTurn 24 = .ok (.ireturn, 1) := by decide +kernel
theorem dX6_remainder_0 : decode cX6_remainder 0 = .ok (.iload_n 2, 1) := by decide +kernel
theorem dX6_remainder_1 : decode cX6_remainder 1 = .ok (.ifCond .le 11, 3) := by decide +kernel
theorem dX6_remainder_4 : decode cX6_remainder 4 = .ok (.lload_n 0, 1) := by decide +kernel
theorem dX6_remainder_5 : decode cX6_remainder 5 = .ok (.iload_n 2, 1) := by decide +kernel
theorem dX6_remainder_6 : decode cX6_remainder 6 = .ok (.i2l, 1) := by decide +kernel
theorem dX6_remainder_7 : decode cX6_remainder 7 = .ok (.lrem, 1) := by decide +kernel
theorem dX6_remainder_8 : decode cX6_remainder 8 = .ok (.l2i, 1) := by decide +kernel
theorem dX6_remainder_9 : decode cX6_remainder 9 = .ok (.goto 4, 3) := by decide +kernel
theorem dX6_remainder_12 : decode cX6_remainder 12 = .ok (.iconst 0, 1) := by decide +kernel
theorem dX6_remainder_13 : decode cX6_remainder 13 = .ok (.ireturn, 1) := by decide +kernel
theorem k_X3_owner_47 : aKV mX3_owner mX3_isSlot 47 1 3 := ⟨cb_X3_isSlot, rfl, ml_X3_47, iv_X3_isSlot, sl_X3_isSlot, ⟨_, _, rfl⟩, ⟨Nat.le_of_ble_eq_true rfl, Nat.le_of_ble_eq_true rfl⟩⟩
theorem k_X3_countForced_73 : aKV mX3_countForced mX0_isUp 73 1 0 := ⟨cb_X0_isUp, rfl, ml_X3_73, iv_X0_isUp, sl_X0_isUp, ⟨_, _, rfl⟩, ⟨Nat.le_of_ble_eq_true rfl, Nat.le_of_ble_eq_true rfl⟩⟩
theorem k_X3_slotOfKey_57 : aKSN mX3_slotOfKey mX6_remainder 57 2 := ⟨cb_X6_remainder, rfl, ⟨_, mn_X3_57⟩, st_X6_remainder, ⟨Nat.le_of_ble_eq_true rfl, Nat.le_of_ble_eq_true rfl⟩⟩
theorem k_X3_preferredSlot_57 : aKSN mX3_preferredSlot mX6_remainder 57 2 := ⟨cb_X6_remainder, rfl, ⟨_, mn_X3_57⟩, st_X6_remainder, ⟨Nat.le_of_ble_eq_true rfl, Nat.le_of_ble_eq_true rfl⟩⟩
/-! ===== SlotTable ===== -/
abbrev aSl (M : Nat) (ow dr tr : Nat → Int32) (ch fo : Int32) : List aCell := [aOb 3 [.int (nI M), .ref 1, .ref 2, .ref 3, .int ch, .int fo], aIa 61 ow, aIa 61 dr, aIa 10 tr]
abbrev aSF (M : Nat) (ow dr tr : Nat → Int32) (ch fo : Int32) (nm wt up : Nat → Int32) (ld : Nat → Int64) : List aCell := [aOb 3 [.int (nI M), .ref 1, .ref 2, .ref 3, .int ch, .int fo], aIa 61 ow, aIa 61 dr, aIa 10 tr, aOb 0 [.ref 5, .ref 6, .ref 7, .ref 8], aIa 10 nm, aIa 10 wt, aBa 10 up, aLa 10 ld]
abbrev rs9 : List Nat := [0, 1, 2, 3, 4, 5, 6, 7, 8]
/-- preference j of the server with name n -/
def pPf (M n j : Nat) : Nat := ((31 * n + 7) % M + j * ((17 * n + 3) % (M - 1) + 1)) % M
theorem pPf_lt {M n j : Nat} (h : 0 < M) : pPf M n j < M := Nat.mod_lt _ h
def pTn (r w g : Nat) : Bool := decide (0 < g) && decide ((r - 1) * w / g < r * w / g)
def sSl (M : Nat) (s : Int32) : Bool := decide (¬ s < 0) && decide (¬ nI M ≤ s)
theorem sSl_in {M : Nat} (hM : M ≤ 61) {s : Int32} (h : sSl M s = true) : vp_in s 61 := by
  simp only [sSl, Bool.and_eq_true, decide_eq_true_eq] at h
  obtain ⟨j, hj, rfl⟩ := nI_of h.1
  refine vp_in_nI ?_ (by decide)
  rcases Nat.lt_or_ge j 61 with q | q
  · exact q
  · exact absurd (nI_le (a := M) (by omega) hj) h.2
theorem sSl_j {M j : Nat} (h : j < M) (hM : M ≤ 61) : sSl M (nI j) = true := by
  simp only [sSl, Bool.and_eq_true, decide_eq_true_eq]
  exact ⟨nI_pos (by omega), nI_ge h (by omega)⟩
theorem in61 {j : Nat} (h : j < 61) : vp_in (nI j) 61 := vp_in_nI h (by decide)
theorem cl61 {j : Nat} (h : j < 61) : (nI j).toNatClampNeg = j := nI_clamp (by omega)
section SLT
variable {l : Launch} {X : aX} {M : Nat} {ow dr tr : Nat → Int32} {ch fo : Int32}
theorem c_X6_remainder (a b : Nat) (ha : a < 2 ^ 31) (h0 : 0 < b) (hb : b < 2 ^ 31) : aRd l X mX6_remainder [] [.long (lN a), .int (nI b)] [] (.int (nI (a % b))) := by
  refine aMt.of (by decide) rfl (Nat.le_of_ble_eq_true rfl) ?_
  have hne : ¬ (nI b).toInt64 = 0 := by
    rw [nI_l hb]
    intro e
    have := (lN_eq hb (show 0 < 2 ^ 31 by decide)).mp e
    omega
  refine a_iload_n dX6_remainder_0 rfl ?_
  refine a_if_le 12 dX6_remainder_1 (by decide) (fun z => absurd z (nI_nle h0 hb)) (fun _ => ?_)
  refine a_lload_n dX6_remainder_4 rfl ?_
  refine a_iload_n dX6_remainder_5 rfl ?_
  refine a_i2l dX6_remainder_6 ?_
  refine a_lrem dX6_remainder_7 (by assumption) ?_
  refine a_l2i dX6_remainder_8 ?_
  refine a_goto 13 dX6_remainder_9 (by decide) ?_
  refine a_iret rfl dX6_remainder_13 (by decide) (by decide) ?_
  refine ⟨?_, rfl⟩
  rw [nI_l hb, pk_lRem (by omega) h0 (by omega), lN_i]
theorem c_X3_size : aRd l X mX3_size rs4 [.ref 0] (aSl M ow dr tr ch fo) (.int (nI M)) := by
  refine aMt.of (by decide) rfl (Nat.le_of_ble_eq_true rfl) ?_
  refine a_aload_n dX3_size_0 rfl ?_
  refine a_get fl_X3_31 dX3_size_1 rfl rfl ?_
  refine a_iret rfl dX3_size_4 (by decide) (by decide) ?_
  exact ⟨rfl, rfl⟩
theorem c_X3_changedSlots : aRd l X mX3_changedSlots rs4 [.ref 0] (aSl M ow dr tr ch fo) (.int ch) := by
  refine aMt.of (by decide) rfl (Nat.le_of_ble_eq_true rfl) ?_
  refine a_aload_n dX3_changedSlots_0 rfl ?_
  refine a_get fl_X3_41 dX3_changedSlots_1 rfl rfl ?_
  refine a_iret rfl dX3_changedSlots_4 (by decide) (by decide) ?_
  exact ⟨rfl, rfl⟩
theorem c_X3_forcedSlots : aRd l X mX3_forcedSlots rs4 [.ref 0] (aSl M ow dr tr ch fo) (.int fo) := by
  refine aMt.of (by decide) rfl (Nat.le_of_ble_eq_true rfl) ?_
  refine a_aload_n dX3_forcedSlots_0 rfl ?_
  refine a_get fl_X3_44 dX3_forcedSlots_1 rfl rfl ?_
  refine a_iret rfl dX3_forcedSlots_4 (by decide) (by decide) ?_
  exact ⟨rfl, rfl⟩
theorem c_X3_isSlot (s : Int32) : aRd l X mX3_isSlot rs4 [.ref 0, .int s] (aSl M ow dr tr ch fo) (.int (bI (sSl M s))) := by
  refine aMt.of (by decide) rfl (Nat.le_of_ble_eq_true rfl) ?_
  refine a_iload_n dX3_isSlot_0 rfl ?_
  refine a_if_lt 16 dX3_isSlot_1 (by decide) (fun c1 => ?_) (fun c1 => ?_)
  · refine a_iconst 0 dX3_isSlot_16 (by decide) ?_
    refine a_zret rfl rfl dX3_isSlot_17 (by decide) (by decide) ?_
    exact ⟨by simp [sSl, c1, bI], rfl⟩
  · refine a_iload_n dX3_isSlot_4 rfl ?_
    refine a_aload_n dX3_isSlot_5 rfl ?_
    refine a_get fl_X3_31 dX3_isSlot_6 rfl rfl ?_
    refine a_icmp_ge 16 dX3_isSlot_9 (by decide) (fun c9 => ?_) (fun c9 => ?_)
    · refine a_iconst 0 dX3_isSlot_16 (by decide) ?_
      refine a_zret rfl rfl dX3_isSlot_17 (by decide) (by decide) ?_
      exact ⟨by simp [sSl, c1, c9, bI], rfl⟩
    · refine a_iconst 1 dX3_isSlot_12 (by decide) ?_
      refine a_goto 17 dX3_isSlot_13 (by decide) ?_
      refine a_zret rfl rfl dX3_isSlot_17 (by decide) (by decide) ?_
      exact ⟨by simp [sSl, c1, c9, bI], rfl⟩
theorem c_X3_owner (hM : M ≤ 61) (s : Int32) : aRd l X mX3_owner rs4 [.ref 0, .int s] (aSl M ow dr tr ch fo) (.int (if sSl M s then ow s.toNatClampNeg else -1)) := by
  refine aMt.of (by decide) rfl (Nat.le_of_ble_eq_true rfl) ?_
  refine a_aload_n dX3_owner_0 rfl ?_
  refine a_iload_n dX3_owner_1 rfl ?_
  refine a_ViR [0, 1, 2, 3] k_X3_owner_47 (c_X3_isSlot (M := M) (ow := ow) (dr := dr) (tr := tr) (ch := ch) (fo := fo) s) dX3_owner_2 rfl rfl rfl rfl rfl rfl (Nat.le_of_ble_eq_true rfl) ⟨Nat.le_of_ble_eq_true rfl, Nat.le_of_ble_eq_true rfl⟩ ⟨rfl, rfl⟩ ?_
  refine a_if_eq 17 dX3_owner_5 (by decide) (fun c5 => ?_) (fun c5 => ?_)
  · refine a_iconst (-1) dX3_owner_17 (by decide) ?_
    refine a_iret rfl dX3_owner_18 (by decide) (by decide) ?_
    exact ⟨by simp [bI_0 c5], rfl⟩
  · refine a_aload_n dX3_owner_8 rfl ?_
    refine a_get fl_X3_9 dX3_owner_9 rfl rfl ?_
    refine a_iload_n dX3_owner_12 rfl ?_
    refine a_iald dX3_owner_13 rfl (sSl_in hM (bI_1 c5)) ?_
    refine a_goto 18 dX3_owner_14 (by decide) ?_
    refine a_iret rfl dX3_owner_18 (by decide) (by decide) ?_
    exact ⟨by simp [bI_1 c5], rfl⟩
def sOb (ow : Nat → Int32) (M : Nat) (s : Int32) : Int32 := aLp (fun j c => if ow j = s then c + 1 else c) M 0 0
theorem c_X3_ownedBy (hM : M ≤ 61) (s : Int32) : aRd l X mX3_ownedBy rs4 [.ref 0, .int s] (aSl M ow dr tr ch fo) (.int (sOb ow M s)) := by
  refine aMt.of (by decide) rfl (Nat.le_of_ble_eq_true rfl) ?_
  generalize hr : sOb ow M s = r
  refine a_iconst 0 dX3_ownedBy_0 (by decide) ?_
  refine a_istore_n dX3_ownedBy_1 (by decide) rfl ?_
  refine a_iconst 0 dX3_ownedBy_2 (by decide) ?_
  refine a_istore_n dX3_ownedBy_3 (by decide) rfl ?_
  have lp : ∀ (k j : Nat) (a : Int32), j + k = M → aLp (fun j c => if ow j = s then c + 1 else c) k j a = r → aJ l X mX3_ownedBy (aEd X mX3_ownedBy rs4 (fun o h' => o = .inl (some (.int r)) ∧ h' = aSl M ow dr tr ch fo)) 0 0 4 [.ref 0, .int s, .int a, .int (nI j)] [] (aSl M ow dr tr ch fo) := by
    intro k
    induction k with
    | zero =>
      intro j a hj hq
      obtain rfl : j = M := by omega
      refine a_iload_n dX3_ownedBy_4 rfl ?_
      refine a_aload_n dX3_ownedBy_5 rfl ?_
      refine a_get fl_X3_31 dX3_ownedBy_6 rfl rfl ?_
      refine a_icmp_ge 31 dX3_ownedBy_9 (by decide) (fun _ => ?_) (fun z => absurd (nI_le (Nat.le_refl j) (by omega)) z)
      refine a_iload_n dX3_ownedBy_31 rfl ?_
      refine a_iret rfl dX3_ownedBy_32 (by decide) (by decide) ?_
      exact ⟨by rw [← hq]; rfl, rfl⟩
    | succ k ih =>
      intro j a hj hq
      refine a_iload_n dX3_ownedBy_4 rfl ?_
      refine a_aload_n dX3_ownedBy_5 rfl ?_
      refine a_get fl_X3_31 dX3_ownedBy_6 rfl rfl ?_
      refine a_icmp_ge 31 dX3_ownedBy_9 (by decide) (fun z => absurd z (nI_ge (by omega) (by omega))) (fun _ => ?_)
      refine a_aload_n dX3_ownedBy_12 rfl ?_
      refine a_get fl_X3_9 dX3_ownedBy_13 rfl rfl ?_
      refine a_iload_n dX3_ownedBy_16 rfl ?_
      refine a_iald dX3_ownedBy_17 rfl (in61 (by omega)) ?_
      refine a_iload_n dX3_ownedBy_18 rfl ?_
      refine a_icmp_ne 25 dX3_ownedBy_19 (by decide) (fun c19 => ?_) (fun c19 => ?_)
      · rw [cl61 (by omega)] at c19
        refine a_iinc (nI (j + 1)) dX3_ownedBy_25 rfl (nI_1 _) (by decide) rfl ?_
        refine a_goto 4 dX3_ownedBy_28 (by decide) ?_
        exact ih (j + 1) a (by omega) (by rw [← hq]; simp [aLp, c19])
      · rw [cl61 (by omega)] at c19
        refine a_iinc (a + 1) dX3_ownedBy_22 rfl rfl (by decide) rfl ?_
        refine a_iinc (nI (j + 1)) dX3_ownedBy_25 rfl (nI_1 _) (by decide) rfl ?_
        refine a_goto 4 dX3_ownedBy_28 (by decide) ?_
        exact ih (j + 1) (a + 1) (by omega) (by rw [← hq]; simp [aLp, c19])
  exact lp M 0 0 (by omega) hr
def sCc (ow dr : Nat → Int32) (M : Nat) : Int32 := aLp (fun j c => if ow j = dr j then c else c + 1) M 0 0
theorem c_X3_countChanged (hM : M ≤ 61) : aRd l X mX3_countChanged rs4 [.ref 0] (aSl M ow dr tr ch fo) (.int (sCc ow dr M)) := by
  refine aMt.of (by decide) rfl (Nat.le_of_ble_eq_true rfl) ?_
  generalize hr : sCc ow dr M = r
  refine a_iconst 0 dX3_countChanged_0 (by decide) ?_
  refine a_istore_n dX3_countChanged_1 (by decide) rfl ?_
  refine a_iconst 0 dX3_countChanged_2 (by decide) ?_
  refine a_istore_n dX3_countChanged_3 (by decide) rfl ?_
  have lp : ∀ (k j : Nat) (a : Int32), j + k = M → aLp (fun j c => if ow j = dr j then c else c + 1) k j a = r → aJ l X mX3_countChanged (aEd X mX3_countChanged rs4 (fun o h' => o = .inl (some (.int r)) ∧ h' = aSl M ow dr tr ch fo)) 0 0 4 [.ref 0, .int a, .int (nI j)] [] (aSl M ow dr tr ch fo) := by
    intro k
    induction k with
    | zero =>
      intro j a hj hq
      obtain rfl : j = M := by omega
      refine a_iload_n dX3_countChanged_4 rfl ?_
      refine a_aload_n dX3_countChanged_5 rfl ?_
      refine a_get fl_X3_31 dX3_countChanged_6 rfl rfl ?_
      refine a_icmp_ge 36 dX3_countChanged_9 (by decide) (fun _ => ?_) (fun z => absurd (nI_le (Nat.le_refl j) (by omega)) z)
      refine a_iload_n dX3_countChanged_36 rfl ?_
      refine a_iret rfl dX3_countChanged_37 (by decide) (by decide) ?_
      exact ⟨by rw [← hq]; rfl, rfl⟩
    | succ k ih =>
      intro j a hj hq
      have hi := in61 (show j < 61 by omega)
      refine a_iload_n dX3_countChanged_4 rfl ?_
      refine a_aload_n dX3_countChanged_5 rfl ?_
      refine a_get fl_X3_31 dX3_countChanged_6 rfl rfl ?_
      refine a_icmp_ge 36 dX3_countChanged_9 (by decide) (fun z => absurd z (nI_ge (by omega) (by omega))) (fun _ => ?_)
      refine a_aload_n dX3_countChanged_12 rfl ?_
      refine a_get fl_X3_9 dX3_countChanged_13 rfl rfl ?_
      refine a_iload_n dX3_countChanged_16 rfl ?_
      refine a_iald dX3_countChanged_17 rfl (by assumption) ?_
      refine a_aload_n dX3_countChanged_18 rfl ?_
      refine a_get fl_X3_15 dX3_countChanged_19 rfl rfl ?_
      refine a_iload_n dX3_countChanged_22 rfl ?_
      refine a_iald dX3_countChanged_23 rfl (by assumption) ?_
      refine a_icmp_eq 30 dX3_countChanged_24 (by decide) (fun c24 => ?_) (fun c24 => ?_)
      · rw [cl61 (by omega)] at c24
        refine a_iinc (nI (j + 1)) dX3_countChanged_30 rfl (nI_1 _) (by decide) rfl ?_
        refine a_goto 4 dX3_countChanged_33 (by decide) ?_
        exact ih (j + 1) a (by omega) (by rw [← hq]; simp [aLp, c24])
      · rw [cl61 (by omega)] at c24
        refine a_iinc (a + 1) dX3_countChanged_27 rfl rfl (by decide) rfl ?_
        refine a_iinc (nI (j + 1)) dX3_countChanged_30 rfl (nI_1 _) (by decide) rfl ?_
        refine a_goto 4 dX3_countChanged_33 (by decide) ?_
        exact ih (j + 1) (a + 1) (by omega) (by rw [← hq]; simp [aLp, c24])
  exact lp M 0 0 (by omega) hr
def sCf (ow nm up : Nat → Int32) (M : Nat) : Int32 := aLp (fun j c => if fUp nm up (ow j) then c else c + 1) M 0 0
theorem c_X3_countForced {nm wt up : Nat → Int32} {ld : Nat → Int64} (hM : M ≤ 61) : aRd l X mX3_countForced rs9 [.ref 0, .ref 4] (aSF M ow dr tr ch fo nm wt up ld) (.int (sCf ow nm up M)) := by
  refine aMt.of (by decide) rfl (Nat.le_of_ble_eq_true rfl) ?_
  generalize hr : sCf ow nm up M = r
  refine a_iconst 0 dX3_countForced_0 (by decide) ?_
  refine a_istore_n dX3_countForced_1 (by decide) rfl ?_
  refine a_iconst 0 dX3_countForced_2 (by decide) ?_
  refine a_istore_n dX3_countForced_3 (by decide) rfl ?_
  have lp : ∀ (k j : Nat) (a : Int32), j + k = M → aLp (fun j c => if fUp nm up (ow j) then c else c + 1) k j a = r → aJ l X mX3_countForced (aEd X mX3_countForced rs9 (fun o h' => o = .inl (some (.int r)) ∧ h' = aSF M ow dr tr ch fo nm wt up ld)) 0 0 4 [.ref 0, .ref 4, .int a, .int (nI j)] [] (aSF M ow dr tr ch fo nm wt up ld) := by
    intro k
    induction k with
    | zero =>
      intro j a hj hq
      obtain rfl : j = M := by omega
      refine a_iload_n dX3_countForced_4 rfl ?_
      refine a_aload_n dX3_countForced_5 rfl ?_
      refine a_get fl_X3_31 dX3_countForced_6 rfl rfl ?_
      refine a_icmp_ge 34 dX3_countForced_9 (by decide) (fun _ => ?_) (fun z => absurd (nI_le (Nat.le_refl j) (by omega)) z)
      refine a_iload_n dX3_countForced_34 rfl ?_
      refine a_iret rfl dX3_countForced_35 (by decide) (by decide) ?_
      exact ⟨by rw [← hq]; rfl, rfl⟩
    | succ k ih =>
      intro j a hj hq
      have hi := in61 (show j < 61 by omega)
      refine a_iload_n dX3_countForced_4 rfl ?_
      refine a_aload_n dX3_countForced_5 rfl ?_
      refine a_get fl_X3_31 dX3_countForced_6 rfl rfl ?_
      refine a_icmp_ge 34 dX3_countForced_9 (by decide) (fun z => absurd z (nI_ge (by omega) (by omega))) (fun _ => ?_)
      refine a_aload_n dX3_countForced_12 rfl ?_
      refine a_aload_n dX3_countForced_13 rfl ?_
      refine a_get fl_X3_9 dX3_countForced_14 rfl rfl ?_
      refine a_iload_n dX3_countForced_17 rfl ?_
      refine a_iald dX3_countForced_18 rfl (by assumption) ?_
      rw [cl61 (by omega)]
      refine a_ViR [4, 5, 6, 7, 8] k_X3_countForced_73 (c_X0_isUp (nm := nm) (wt := wt) (up := up) (ld := ld) (ow j)) dX3_countForced_19 rfl rfl rfl rfl rfl rfl (Nat.le_of_ble_eq_true rfl) ⟨Nat.le_of_ble_eq_true rfl, Nat.le_of_ble_eq_true rfl⟩ ⟨rfl, rfl⟩ ?_
      refine a_if_ne 28 dX3_countForced_22 (by decide) (fun c22 => ?_) (fun c22 => ?_)
      · refine a_iinc (nI (j + 1)) dX3_countForced_28 rfl (nI_1 _) (by decide) rfl ?_
        refine a_goto 4 dX3_countForced_31 (by decide) ?_
        exact ih (j + 1) a (by omega) (by rw [← hq]; simp [aLp, bI_1 c22])
      · refine a_iinc (a + 1) dX3_countForced_25 rfl rfl (by decide) rfl ?_
        refine a_iinc (nI (j + 1)) dX3_countForced_28 rfl (nI_1 _) (by decide) rfl ?_
        refine a_goto 4 dX3_countForced_31 (by decide) ?_
        exact ih (j + 1) (a + 1) (by omega) (by rw [← hq]; simp [aLp, bI_0 c22])
  exact lp M 0 0 (by omega) hr
def sKy (M k : Nat) : Nat := (40503 * k + 12345) % 65536 % M
theorem c_X3_slotOfKey (h0 : 0 < M) (hM : M ≤ 61) (k : Nat) (hk : k ≤ 99999) : aRd l X mX3_slotOfKey rs4 [.ref 0, .int (nI k)] (aSl M ow dr tr ch fo) (.int (nI (sKy M k))) := by
  refine aMt.of (by decide) rfl (Nat.le_of_ble_eq_true rfl) ?_
  refine a_ldc2 dX3_slotOfKey_0 cn_X3_51 ?_
  refine a_iload_n dX3_slotOfKey_3 rfl ?_
  refine a_i2l dX3_slotOfKey_4 ?_
  refine a_lmul dX3_slotOfKey_5 ?_
  refine a_ldc2 dX3_slotOfKey_6 cn_X3_53 ?_
  refine a_ladd dX3_slotOfKey_9 ?_
  refine a_ldc2 dX3_slotOfKey_10 cn_X3_55 ?_
  refine a_lrem dX3_slotOfKey_13 (by decide) ?_
  have e : (40503 * (nI k).toInt64 + 12345 - (40503 * (nI k).toInt64 + 12345) / 65536 * 65536 : Int64) = lN ((40503 * k + 12345) % 65536) := by
    have e1 : (40503 * (nI k).toInt64 + 12345 : Int64) = lN (40503 * k + 12345) := by
      rw [nI_l (by omega), ← lN_add, ← lN_mul]
      rfl
    rw [e1]
    exact pk_lRem (a := 40503 * k + 12345) (b := 65536) (by omega) (by decide) (by decide)
  rw [e]
  refine a_aload_n dX3_slotOfKey_14 rfl ?_
  refine a_get fl_X3_31 dX3_slotOfKey_15 rfl rfl ?_
  refine a_SNiR [] k_X3_slotOfKey_57 (c_X6_remainder ((40503 * k + 12345) % 65536) M (by omega) h0 (by omega)) dX3_slotOfKey_18 rfl rfl rfl rfl rfl (Nat.le_of_ble_eq_true rfl) ⟨Nat.le_of_ble_eq_true rfl, Nat.le_of_ble_eq_true rfl⟩ ⟨rfl, rfl⟩ ?_
  refine a_iret rfl dX3_slotOfKey_21 (by decide) (by decide) ?_
  exact ⟨rfl, rfl⟩
theorem c_X3_preferredSlot (h2 : 2 ≤ M) (hM : M ≤ 61) (n j : Nat) (hn : n ≤ 9999) (hj : j ≤ 61) : aRd l X mX3_preferredSlot rs4 [.ref 0, .int (nI n), .int (nI j)] (aSl M ow dr tr ch fo) (.int (nI (pPf M n j))) := by
  refine aMt.of (by decide) rfl (Nat.le_of_ble_eq_true rfl) ?_
  refine a_bipush 31 dX3_preferredSlot_0 (by decide) ?_
  refine a_iload_n dX3_preferredSlot_2 rfl ?_
  refine a_imul dX3_preferredSlot_3 ?_
  refine a_bipush 7 dX3_preferredSlot_4 (by decide) ?_
  refine a_iadd dX3_preferredSlot_6 ?_
  refine a_i2l dX3_preferredSlot_7 ?_
  have e1 : (31 * nI n + 7 : Int32).toInt64 = lN (31 * n + 7) := by
    rw [show (31 * nI n + 7 : Int32) = nI (31 * n + 7) by rw [← nI_add, ← pk_mul]; rfl]
    exact nI_l (by omega)
  rw [e1]
  refine a_aload_n dX3_preferredSlot_8 rfl ?_
  refine a_get fl_X3_31 dX3_preferredSlot_9 rfl rfl ?_
  refine a_SNiR [] k_X3_preferredSlot_57 (c_X6_remainder (31 * n + 7) M (by omega) (by omega) (by omega)) dX3_preferredSlot_12 rfl rfl rfl rfl rfl (Nat.le_of_ble_eq_true rfl) ⟨Nat.le_of_ble_eq_true rfl, Nat.le_of_ble_eq_true rfl⟩ ⟨rfl, rfl⟩ ?_
  refine a_istore_n dX3_preferredSlot_15 (by decide) rfl ?_
  refine a_bipush 17 dX3_preferredSlot_16 (by decide) ?_
  refine a_iload_n dX3_preferredSlot_18 rfl ?_
  refine a_imul dX3_preferredSlot_19 ?_
  refine a_iconst 3 dX3_preferredSlot_20 (by decide) ?_
  refine a_iadd dX3_preferredSlot_21 ?_
  refine a_i2l dX3_preferredSlot_22 ?_
  have e2 : (17 * nI n + 3 : Int32).toInt64 = lN (17 * n + 3) := by
    rw [show (17 * nI n + 3 : Int32) = nI (17 * n + 3) by rw [← nI_add, ← pk_mul]; rfl]
    exact nI_l (by omega)
  rw [e2]
  refine a_aload_n dX3_preferredSlot_23 rfl ?_
  refine a_get fl_X3_31 dX3_preferredSlot_24 rfl rfl ?_
  refine a_iconst 1 dX3_preferredSlot_27 (by decide) ?_
  refine a_isub dX3_preferredSlot_28 ?_
  rw [show (nI M - 1 : Int32) = nI (M - 1) from by obtain ⟨z, rfl⟩ : ∃ z, M = z + 1 := ⟨M - 1, by omega⟩; exact nI_pred z]
  refine a_SNiR [] k_X3_preferredSlot_57 (c_X6_remainder (17 * n + 3) (M - 1) (by omega) (by omega) (by omega)) dX3_preferredSlot_29 rfl rfl rfl rfl rfl (Nat.le_of_ble_eq_true rfl) ⟨Nat.le_of_ble_eq_true rfl, Nat.le_of_ble_eq_true rfl⟩ ⟨rfl, rfl⟩ ?_
  refine a_iconst 1 dX3_preferredSlot_32 (by decide) ?_
  refine a_iadd dX3_preferredSlot_33 ?_
  refine a_istore dX3_preferredSlot_34 (by decide) rfl ?_
  refine a_iload_n dX3_preferredSlot_36 rfl ?_
  refine a_iload_n dX3_preferredSlot_37 rfl ?_
  refine a_iload dX3_preferredSlot_38 rfl ?_
  refine a_imul dX3_preferredSlot_40 ?_
  refine a_iadd dX3_preferredSlot_41 ?_
  refine a_i2l dX3_preferredSlot_42 ?_
  have b1 : (31 * n + 7) % M < 61 := by have := Nat.mod_lt (31 * n + 7) (show 0 < M by omega); omega
  have b2 : (17 * n + 3) % (M - 1) + 1 ≤ 61 := by have := Nat.mod_lt (17 * n + 3) (show 0 < M - 1 by omega); omega
  have b3 : j * ((17 * n + 3) % (M - 1) + 1) ≤ 61 * 61 := Nat.mul_le_mul hj b2
  have e3 : (nI ((31 * n + 7) % M) + nI j * (nI ((17 * n + 3) % (M - 1)) + 1) : Int32).toInt64 = lN ((31 * n + 7) % M + j * ((17 * n + 3) % (M - 1) + 1)) := by
    rw [nI_1, pk_mul, nI_add]
    exact nI_l (by omega)
  rw [e3]
  refine a_aload_n dX3_preferredSlot_43 rfl ?_
  refine a_get fl_X3_31 dX3_preferredSlot_44 rfl rfl ?_
  refine a_SNiR [] k_X3_preferredSlot_57 (c_X6_remainder ((31 * n + 7) % M + j * ((17 * n + 3) % (M - 1) + 1)) M (by omega) (by omega) (by omega)) dX3_preferredSlot_47 rfl rfl rfl rfl rfl (Nat.le_of_ble_eq_true rfl) ⟨Nat.le_of_ble_eq_true rfl, Nat.le_of_ble_eq_true rfl⟩ ⟨rfl, rfl⟩ ?_
  refine a_iret rfl dX3_preferredSlot_50 (by decide) (by decide) ?_
  exact ⟨rfl, rfl⟩
theorem c_X3_hasTurn (r w g : Nat) (h1 : 1 ≤ r) (hr : r ≤ 61) (hw : w ≤ 16) (hg : g ≤ 16) : aRd l X mX3_hasTurn [] [.int (nI r), .int (nI w), .int (nI g)] [] (.int (bI (pTn r w g))) := by
  refine aMt.of (by decide) rfl (Nat.le_of_ble_eq_true rfl) ?_
  have b1 : r * w ≤ 61 * 16 := Nat.mul_le_mul hr hw
  have b2 : (r - 1) * w ≤ 61 * 16 := Nat.mul_le_mul (by omega) hw
  rcases Nat.eq_zero_or_pos g with hg0 | hg0
  · subst hg0
    refine a_iload_n dX3_hasTurn_0 rfl ?_
    refine a_if_le 23 dX3_hasTurn_1 (by decide) (fun _ => ?_) (fun z => absurd (by decide) z)
    refine a_iconst 0 dX3_hasTurn_23 (by decide) ?_
    refine a_zret rfl rfl dX3_hasTurn_24 (by decide) (by decide) ?_
    exact ⟨by simp [pTn, bI], rfl⟩
  · have hne : ¬ nI g = 0 := nI_ne0 hg0 (by omega)
    refine a_iload_n dX3_hasTurn_0 rfl ?_
    refine a_if_le 23 dX3_hasTurn_1 (by decide) (fun z => absurd z (nI_nle hg0 (by omega))) (fun _ => ?_)
    refine a_iload_n dX3_hasTurn_4 rfl ?_
    refine a_iload_n dX3_hasTurn_5 rfl ?_
    refine a_imul dX3_hasTurn_6 ?_
    refine a_iload_n dX3_hasTurn_7 rfl ?_
    refine a_idiv dX3_hasTurn_8 (by assumption) ?_
    refine a_iload_n dX3_hasTurn_9 rfl ?_
    refine a_iconst 1 dX3_hasTurn_10 (by decide) ?_
    refine a_isub dX3_hasTurn_11 ?_
    refine a_iload_n dX3_hasTurn_12 rfl ?_
    refine a_imul dX3_hasTurn_13 ?_
    refine a_iload_n dX3_hasTurn_14 rfl ?_
    refine a_idiv dX3_hasTurn_15 (by assumption) ?_
    have d1 : nI r * nI w / nI g = nI (r * w / g) := by rw [pk_mul]; exact pk_div (by omega) hg0 (by omega)
    have d2 : (nI r - 1) * nI w / nI g = nI ((r - 1) * w / g) := by
      rw [show (nI r - 1 : Int32) = nI (r - 1) from by obtain ⟨z, rfl⟩ : ∃ z, r = z + 1 := ⟨r - 1, by omega⟩; exact nI_pred z, pk_mul]
      exact pk_div (by omega) hg0 (by omega)
    have l1 : r * w / g ≤ r * w := Nat.div_le_self _ _
    have l2 : (r - 1) * w / g ≤ (r - 1) * w := Nat.div_le_self _ _
    rw [d1, d2]
    refine a_icmp_le 23 dX3_hasTurn_16 (by decide) (fun c16 => ?_) (fun c16 => ?_)
    · rw [nI_leI (by omega) (by omega)] at c16
      refine a_iconst 0 dX3_hasTurn_23 (by decide) ?_
      refine a_zret rfl rfl dX3_hasTurn_24 (by decide) (by decide) ?_
      exact ⟨by simp [pTn, hg0, Nat.not_lt.mpr c16, bI], rfl⟩
    · rw [nI_leI (by omega) (by omega)] at c16
      refine a_iconst 1 dX3_hasTurn_19 (by decide) ?_
      refine a_goto 24 dX3_hasTurn_20 (by decide) ?_
      refine a_zret rfl rfl dX3_hasTurn_24 (by decide) (by decide) ?_
      exact ⟨by simp [pTn, hg0, Nat.not_le.mp c16, bI], rfl⟩
end SLT
end
section
/-! written by wip/whole/pp.py out of wip/whole/src/19.draw.lean -/
theorem dX3_draw_0 : decode cX3_draw 0 = .ok (.aload_n 0, 1) := by decide +kernel
theorem dX3_draw_1 : decode cX3_draw 1 = .ok (.getfield 15, 3) := by decide +kernel
theorem dX3_draw_4 : decode cX3_draw 4 = .ok (.iconst (-1), 1) := by decide +kernel
theorem dX3_draw_5 : decode cX3_draw 5 = .ok (.invokestatic 35, 3) := by decide +kernel
theorem dX3_draw_8 : decode cX3_draw 8 = .ok (.aload_n 0, 1) := by decide +kernel
theorem dX3_draw_9 : decode cX3_draw 9 = .ok (.getfield 18, 3) := by decide +kernel
theorem dX3_draw_12 : decode cX3_draw 12 = .ok (.iconst 0, 1) := by decide +kernel
theorem dX3_draw_13 : decode cX3_draw 13 = .ok (.invokestatic 35, 3) := by decide +kernel
theorem dX3_draw_16 : decode cX3_draw 16 = .ok (.aload_n 1, 1) := by decide +kernel
theorem dX3_draw_17 : decode cX3_draw 17 = .ok (.iload_n 2, 1) := by decide +kernel
theorem dX3_draw_18 : decode cX3_draw 18 = .ok (.invokevirtual 78, 3) := by decide +kernel
theorem dX3_draw_21 : decode cX3_draw 21 = .ok (.istore_n 3, 1) := by decide +kernel
theorem dX3_draw_22 : decode cX3_draw 22 = .ok (.iload_n 3, 1) := by decide +kernel
theorem dX3_draw_23 : decode cX3_draw 23 = .ok (.ifCond .le 10, 3) := by decide +kernel
theorem dX3_draw_26 : decode cX3_draw 26 = .ok (.aload_n 0, 1) := by decide +kernel
theorem dX3_draw_27 : decode cX3_draw 27 = .ok (.getfield 31, 3) := by decide +kernel
theorem dX3_draw_30 : decode cX3_draw 30 = .ok (.goto 4, 3) := by decide +kernel
theorem dX3_draw_33 : decode cX3_draw 33 = .ok (.iconst 0, 1) := by decide +kernel
theorem dX3_draw_34 : decode cX3_draw 34 = .ok (.istore 4, 2) := by decide +kernel
theorem dX3_draw_36 : decode cX3_draw 36 = .ok (.iconst 1, 1) := by decide +kernel
theorem dX3_draw_37 : decode cX3_draw 37 = .ok (.istore 5, 2) := by decide +kernel
theorem dX3_draw_39 : decode cX3_draw 39 = .ok (.iload 5, 2) := by decide +kernel
theorem dX3_draw_41 : decode cX3_draw 41 = .ok (.aload_n 0, 1) := by decide +kernel
theorem dX3_draw_42 : decode cX3_draw 42 = .ok (.getfield 31, 3) := by decide +kernel
theorem dX3_draw_45 : decode cX3_draw 45 = .ok (.if_icmp .gt 83, 3) := by decide +kernel
theorem dX3_draw_48 : decode cX3_draw 48 = .ok (.iload 4, 2) := by decide +kernel
theorem dX3_draw_50 : decode cX3_draw 50 = .ok (.ifCond .le 78, 3) := by decide +kernel
theorem dX3_draw_53 : decode cX3_draw 53 = .ok (.iconst 0, 1) := by decide +kernel
theorem dX3_draw_54 : decode cX3_draw 54 = .ok (.istore 6, 2) := by decide +kernel
theorem dX3_draw_56 : decode cX3_draw 56 = .ok (.iload 6, 2) := by decide +kernel
theorem dX3_draw_58 : decode cX3_draw 58 = .ok (.bipush 10, 2) := by decide +kernel
theorem dX3_draw_60 : decode cX3_draw 60 = .ok (.if_icmp .ge 62, 3) := by decide +kernel
theorem dX3_draw_63 : decode cX3_draw 63 = .ok (.iload 4, 2) := by decide +kernel
theorem dX3_draw_65 : decode cX3_draw 65 = .ok (.ifCond .le 57, 3) := by decide +kernel
theorem dX3_draw_68 : decode cX3_draw 68 = .ok (.iload 6, 2) := by decide +kernel
theorem dX3_draw_70 : decode cX3_draw 70 = .ok (.iload_n 2, 1) := by decide +kernel
theorem dX3_draw_71 : decode cX3_draw 71 = .ok (.if_icmp .eq 45, 3) := by decide +kernel
theorem dX3_draw_74 : decode cX3_draw 74 = .ok (.aload_n 1, 1) := by decide +kernel
theorem dX3_draw_75 : decode cX3_draw 75 = .ok (.iload 6, 2) := by decide +kernel
theorem dX3_draw_77 : decode cX3_draw 77 = .ok (.invokevirtual 73, 3) := by decide +kernel
theorem dX3_draw_80 : decode cX3_draw 80 = .ok (.ifCond .eq 36, 3) := by decide +kernel
theorem dX3_draw_83 : decode cX3_draw 83 = .ok (.iload 5, 2) := by decide +kernel
theorem dX3_draw_85 : decode cX3_draw 85 = .ok (.aload_n 1, 1) := by decide +kernel
theorem dX3_draw_86 : decode cX3_draw 86 = .ok (.iload 6, 2) := by decide +kernel
theorem dX3_draw_88 : decode cX3_draw 88 = .ok (.invokevirtual 82, 3) := by decide +kernel
theorem dX3_draw_91 : decode cX3_draw 91 = .ok (.iload_n 3, 1) := by decide +kernel
theorem dX3_draw_92 : decode cX3_draw 92 = .ok (.invokestatic 85, 3) := by decide +kernel
theorem dX3_draw_95 : decode cX3_draw 95 = .ok (.ifCond .eq 21, 3) := by decide +kernel
theorem dX3_draw_98 : decode cX3_draw 98 = .ok (.aload_n 0, 1) := by decide +kernel
theorem dX3_draw_99 : decode cX3_draw 99 = .ok (.iload 6, 2) := by decide +kernel
theorem dX3_draw_101 : decode cX3_draw 101 = .ok (.aload_n 1, 1) := by decide +kernel
theorem dX3_draw_102 : decode cX3_draw 102 = .ok (.iload 6, 2) := by decide +kernel
theorem dX3_draw_104 : decode cX3_draw 104 = .ok (.invokevirtual 89, 3) := by decide +kernel
theorem dX3_draw_107 : decode cX3_draw 107 = .ok (.invokevirtual 92, 3) := by decide +kernel
theorem dX3_draw_110 : decode cX3_draw 110 = .ok (.ifCond .eq 6, 3) := by decide +kernel
theorem dX3_draw_113 : decode cX3_draw 113 = .ok (.iinc 4 (-1), 3) := by decide +kernel
theorem dX3_draw_116 : decode cX3_draw 116 = .ok (.iinc 6 1, 3) := by decide +kernel
theorem dX3_draw_119 : decode cX3_draw 119 = .ok (.goto (-63), 3) := by decide +kernel
theorem dX3_draw_122 : decode cX3_draw 122 = .ok (.iinc 5 1, 3) := by decide +kernel
theorem dX3_draw_125 : decode cX3_draw 125 = .ok (.goto (-86), 3) := by decide +kernel
theorem dX3_draw_128 : decode cX3_draw 128 = .ok (.return_, 1) := by decide +kernel
theorem dX3_claim_0 : decode cX3_claim 0 = .ok (.aload_n 0, 1) := by decide +kernel
theorem dX3_claim_1 : decode cX3_claim 1 = .ok (.getfield 18, 3) := by decide +kernel
theorem dX3_claim_4 : decode cX3_claim 4 = .ok (.iload_n 1, 1) := by decide +kernel
theorem dX3_claim_5 : decode cX3_claim 5 = .ok (.iaload, 1) := by decide +kernel
theorem dX3_claim_6 : decode cX3_claim 6 = .ok (.istore_n 3, 1) := by decide +kernel
theorem dX3_claim_7 : decode cX3_claim 7 = .ok (.iload_n 3, 1) := by decide +kernel
theorem dX3_claim_8 : decode cX3_claim 8 = .ok (.aload_n 0, 1) := by decide +kernel
theorem dX3_claim_9 : decode cX3_claim 9 = .ok (.getfield 31, 3) := by decide +kernel
theorem dX3_claim_12 : decode cX3_claim 12 = .ok (.if_icmp .ge 56, 3) := by decide +kernel
theorem dX3_claim_15 : decode cX3_claim 15 = .ok (.aload_n 0, 1) := by decide +kernel
theorem dX3_claim_16 : decode cX3_claim 16 = .ok (.iload_n 2, 1) := by decide +kernel
theorem dX3_claim_17 : decode cX3_claim 17 = .ok (.iload_n 3, 1) := by decide +kernel
theorem dX3_claim_18 : decode cX3_claim 18 = .ok (.invokevirtual 96, 3) := by decide +kernel
theorem dX3_claim_21 : decode cX3_claim 21 = .ok (.istore 4, 2) := by decide +kernel
theorem dX3_claim_23 : decode cX3_claim 23 = .ok (.aload_n 0, 1) := by decide +kernel
theorem dX3_claim_24 : decode cX3_claim 24 = .ok (.iload 4, 2) := by decide +kernel
theorem dX3_claim_26 : decode cX3_claim 26 = .ok (.invokevirtual 47, 3) := by decide +kernel
theorem dX3_claim_29 : decode cX3_claim 29 = .ok (.ifCond .eq 33, 3) := by decide +kernel
theorem dX3_claim_32 : decode cX3_claim 32 = .ok (.aload_n 0, 1) := by decide +kernel
theorem dX3_claim_33 : decode cX3_claim 33 = .ok (.getfield 15, 3) := by decide +kernel
theorem dX3_claim_36 : decode cX3_claim 36 = .ok (.iload 4, 2) := by decide +kernel
theorem dX3_claim_38 : decode cX3_claim 38 = .ok (.iaload, 1) := by decide +kernel
theorem dX3_claim_39 : decode cX3_claim 39 = .ok (.iconst (-1), 1) := by decide +kernel
theorem dX3_claim_40 : decode cX3_claim 40 = .ok (.if_icmp .ne 22, 3) := by decide +kernel
theorem dX3_claim_43 : decode cX3_claim 43 = .ok (.aload_n 0, 1) := by decide +kernel
theorem dX3_claim_44 : decode cX3_claim 44 = .ok (.getfield 15, 3) := by decide +kernel
theorem dX3_claim_47 : decode cX3_claim 47 = .ok (.iload 4, 2) := by decide +kernel
theorem dX3_claim_49 : decode cX3_claim 49 = .ok (.iload_n 1, 1) := by decide +kernel
theorem dX3_claim_50 : decode cX3_claim 50 = .ok (.iastore, 1) := by decide +kernel
theorem dX3_claim_51 : decode cX3_claim 51 = .ok (.aload_n 0, 1) := by decide +kernel
theorem dX3_claim_52 : decode cX3_claim 52 = .ok (.getfield 18, 3) := by decide +kernel
theorem dX3_claim_55 : decode cX3_claim 55 = .ok (.iload_n 1, 1) := by decide +kernel
theorem dX3_claim_56 : decode cX3_claim 56 = .ok (.iload_n 3, 1) := by decide +kernel
theorem dX3_claim_57 : decode cX3_claim 57 = .ok (.iconst 1, 1) := by decide +kernel
theorem dX3_claim_58 : decode cX3_claim 58 = .ok (.iadd, 1) := by decide +kernel
theorem dX3_claim_59 : decode cX3_claim 59 = .ok (.iastore, 1) := by decide +kernel
theorem dX3_claim_60 : decode cX3_claim 60 = .ok (.iconst 1, 1) := by decide +kernel
theorem dX3_claim_61 : decode cX3_claim 61 = .ok (.ireturn, 1) := by decide +kernel
theorem dX3_claim_62 : decode cX3_claim 62 = .ok (.iinc 3 1, 3) := by decide +kernel
theorem dX3_claim_65 : decode cX3_claim 65 = .ok (.goto (-58), 3) := by decide +kernel
theorem dX3_claim_68 : decode cX3_claim 68 = .ok (.iconst 0, 1) := by decide +kernel
theorem dX3_claim_69 : decode cX3_claim 69 = .ok (.ireturn, 1) := by decide +kernel
theorem k_X3_claim_96 : aKV mX3_claim mX3_preferredSlot 96 2 3 := ⟨cb_X3_preferredSlot, rfl, ml_X3_96, iv_X3_preferredSlot, sl_X3_preferredSlot, ⟨_, _, rfl⟩, ⟨Nat.le_of_ble_eq_true rfl, Nat.le_of_ble_eq_true rfl⟩⟩
theorem k_X3_claim_47 : aKV mX3_claim mX3_isSlot 47 1 3 := ⟨cb_X3_isSlot, rfl, ml_X3_47, iv_X3_isSlot, sl_X3_isSlot, ⟨_, _, rfl⟩, ⟨Nat.le_of_ble_eq_true rfl, Nat.le_of_ble_eq_true rfl⟩⟩
theorem k_X3_draw_35 : aKS mX3_draw mJ7_fill_53178 35 2 := ⟨cb_J7_fill_53178, rfl, ml_X3_35, st_J7_fill_53178, ⟨Nat.le_of_ble_eq_true rfl, Nat.le_of_ble_eq_true rfl⟩⟩
theorem k_X3_draw_78 : aKV mX3_draw mX0_greatestWeightWithout 78 1 0 := ⟨cb_X0_greatestWeightWithout, rfl, ml_X3_78, iv_X0_greatestWeightWithout, sl_X0_greatestWeightWithout, ⟨_, _, rfl⟩, ⟨Nat.le_of_ble_eq_true rfl, Nat.le_of_ble_eq_true rfl⟩⟩
theorem k_X3_draw_73 : aKV mX3_draw mX0_isUp 73 1 0 := ⟨cb_X0_isUp, rfl, ml_X3_73, iv_X0_isUp, sl_X0_isUp, ⟨_, _, rfl⟩, ⟨Nat.le_of_ble_eq_true rfl, Nat.le_of_ble_eq_true rfl⟩⟩
theorem k_X3_draw_82 : aKV mX3_draw mX0_weight 82 1 0 := ⟨cb_X0_weight, rfl, ml_X3_82, iv_X0_weight, sl_X0_weight, ⟨_, _, rfl⟩, ⟨Nat.le_of_ble_eq_true rfl, Nat.le_of_ble_eq_true rfl⟩⟩
theorem k_X3_draw_85 : aKS mX3_draw mX3_hasTurn 85 3 := ⟨cb_X3_hasTurn, rfl, ml_X3_85, st_X3_hasTurn, ⟨Nat.le_of_ble_eq_true rfl, Nat.le_of_ble_eq_true rfl⟩⟩
theorem k_X3_draw_89 : aKV mX3_draw mX0_name 89 1 0 := ⟨cb_X0_name, rfl, ml_X3_89, iv_X0_name, sl_X0_name, ⟨_, _, rfl⟩, ⟨Nat.le_of_ble_eq_true rfl, Nat.le_of_ble_eq_true rfl⟩⟩
theorem k_X3_draw_92 : aKV mX3_draw mX3_claim 92 2 3 := ⟨cb_X3_claim, rfl, ml_X3_92, iv_X3_claim, sl_X3_claim, ⟨_, _, rfl⟩, ⟨Nat.le_of_ble_eq_true rfl, Nat.le_of_ble_eq_true rfl⟩⟩
/-! ===== SlotTable: building ===== -/
/-- the draft, where each server goes on, how many slots are free -/
abbrev dT : Type := (Nat → Int32) × (Nat → Int32) × Nat
/-- server s with name n takes its first free preference -/
def dFi (M n s : Nat) (σ : dT) : Option Nat := aFo (fun i => decide (σ.1 (pPf M n i) = -1)) (M - (σ.2.1 s).toNatClampNeg) (σ.2.1 s).toNatClampNeg
def dCl (M n s : Nat) (σ : dT) : dT := match dFi M n s σ with
  | some i => (upd σ.1 (pPf M n i) (nI s), upd σ.2.1 s (nI (i + 1)), σ.2.2 - 1)
  | none => σ
/-- the turn of server s in round r -/
def dTu (M : Nat) (A W : Nat → Nat) (on : Nat → Bool) (G r s : Nat) (σ : dT) : dT := if on s && pTn r (W s) G then dCl M (A s) s σ else σ
def dIn (M : Nat) (A W : Nat → Nat) (on : Nat → Bool) (G r : Nat) : Nat → Nat → dT → dT
  | 0, _, σ => σ
  | k + 1, s, σ => if 0 < σ.2.2 then dIn M A W on G r k (s + 1) (dTu M A W on G r s σ) else σ
def dOu (M : Nat) (A W : Nat → Nat) (on : Nat → Bool) (G : Nat) : Nat → Nat → dT → dT
  | 0, _, σ => σ
  | k + 1, r, σ => if 0 < σ.2.2 then dOu M A W on G k (r + 1) (dIn M A W on G r 10 0 σ) else σ
def dOn (nm up : Nat → Int32) (lo : Int32) (s : Nat) : Bool := decide (¬ nI s = lo) && fUp nm up (nI s)
def dDr (M : Nat) (A W : Nat → Nat) (nm up : Nat → Int32) (lo : Int32) (G : Nat) (dr tr : Nat → Int32) : dT := dOu M A W (dOn nm up lo) G M 1 (fFl 61 (fun _ => -1) dr, fFl 10 (fun _ => 0) tr, if 0 < G then M else 0)
def dOk (M : Nat) (σ : dT) : Prop := σ.2.2 ≤ M ∧ ∀ j, j < 10 → ∃ t, t ≤ M ∧ σ.2.1 j = nI t
theorem dCl_ok {M n s : Nat} {σ : dT} (hs : s < 10) (hM : M ≤ 61) (h : dOk M σ) : dOk M (dCl M n s σ) := by
  unfold dCl
  cases hf : dFi M n s σ with
  | none => exact h
  | some i =>
    obtain ⟨t, ht, he⟩ := h.2 s hs
    unfold dFi at hf
    rw [he, nI_clamp (by omega)] at hf
    obtain ⟨h1, h2, -⟩ := aFo_some hf
    refine ⟨Nat.le_trans (Nat.sub_le _ _) h.1, fun j hj => ?_⟩
    show ∃ t, t ≤ M ∧ upd σ.2.1 s (nI (i + 1)) j = nI t
    unfold upd
    split
    · exact ⟨i + 1, by omega, rfl⟩
    · exact h.2 j hj
theorem dTu_ok {M : Nat} {A W : Nat → Nat} {on : Nat → Bool} {G r s : Nat} {σ : dT} (hs : s < 10) (hM : M ≤ 61) (h : dOk M σ) : dOk M (dTu M A W on G r s σ) := by
  unfold dTu
  split
  · exact dCl_ok hs hM h
  · exact h
theorem dIn_ok {M : Nat} {A W : Nat → Nat} {on : Nat → Bool} {G r : Nat} (hM : M ≤ 61) : ∀ (k s : Nat) {σ : dT}, s + k = 10 → dOk M σ → dOk M (dIn M A W on G r k s σ)
  | 0, _, _, _, h => h
  | k + 1, s, σ, hs, h => by
    unfold dIn
    split
    · exact dIn_ok hM k (s + 1) (by omega) (dTu_ok (by omega) hM h)
    · exact h
section DRW
variable {l : Launch} {X : aX} {M : Nat} {ow dr tr : Nat → Int32} {ch fo : Int32}
theorem c_X3_claim (h2 : 2 ≤ M) (hM : M ≤ 61) (s n : Nat) (hs : s < 10) (hn : n ≤ 9999) (f : Nat) (hok : dOk M (dr, tr, f)) : aWr l X mX3_claim rs4 [.ref 0, .int (nI s), .int (nI n)] (aSl M ow dr tr ch fo) (some (.int (bI (dFi M n s (dr, tr, f)).isSome))) (aSl M ow (dCl M n s (dr, tr, f)).1 (dCl M n s (dr, tr, f)).2.1 ch fo) := by
  refine aMt.of (by decide) rfl (Nat.le_of_ble_eq_true rfl) ?_
  have hv : vp_in (nI s) 10 := in10 hs
  obtain ⟨t, ht, he⟩ := hok.2 s hs
  dsimp only at he
  have hfi : dFi M n s (dr, tr, f) = aFo (fun i => decide (dr (pPf M n i) = -1)) (M - t) t := by
    unfold dFi; dsimp only; rw [he, nI_clamp (by omega)]
  refine a_aload_n dX3_claim_0 rfl ?_
  refine a_get fl_X3_18 dX3_claim_1 rfl rfl ?_
  refine a_iload_n dX3_claim_4 rfl ?_
  refine a_iald dX3_claim_5 rfl (by assumption) ?_
  refine a_istore_n dX3_claim_6 (by decide) rfl ?_
  rw [cl10 hs, he]
  generalize hr : (bI (dFi M n s (dr, tr, f)).isSome) = r
  generalize hh : aSl M ow (dCl M n s (dr, tr, f)).1 (dCl M n s (dr, tr, f)).2.1 ch fo = h9
  have lp : ∀ (k i : Nat), i + k = M → dFi M n s (dr, tr, f) = aFo (fun i => decide (dr (pPf M n i) = -1)) k i → aJ l X mX3_claim (aEd X mX3_claim rs4 (fun o h' => o = .inl (some (.int r)) ∧ h' = h9)) 0 0 7 [.ref 0, .int (nI s), .int (nI n), .int (nI i), .null] [] (aSl M ow dr tr ch fo) := by
    intro k
    induction k with
    | zero =>
      intro i hi hq
      obtain rfl : i = M := by omega
      refine a_iload_n dX3_claim_7 rfl ?_
      refine a_aload_n dX3_claim_8 rfl ?_
      refine a_get fl_X3_31 dX3_claim_9 rfl rfl ?_
      refine a_icmp_ge 68 dX3_claim_12 (by decide) (fun _ => ?_) (fun z => absurd (nI_le (Nat.le_refl i) (by omega)) z)
      refine a_iconst 0 dX3_claim_68 (by decide) ?_
      refine a_zret rfl rfl dX3_claim_69 (by decide) (by decide) ?_
      refine ⟨?_, ?_⟩
      · rw [← hr, hq]; rfl
      · rw [← hh]; unfold dCl; rw [hq]; rfl
    | succ k ih =>
      intro i hi hq
      have hp : pPf M n i < M := pPf_lt (by omega)
      have hv4 : vp_in (nI (pPf M n i)) 61 := in61 (by omega)
      refine a_iload_n dX3_claim_7 rfl ?_
      refine a_aload_n dX3_claim_8 rfl ?_
      refine a_get fl_X3_31 dX3_claim_9 rfl rfl ?_
      refine a_icmp_ge 68 dX3_claim_12 (by decide) (fun z => absurd z (nI_ge (by omega) (by omega))) (fun _ => ?_)
      refine a_aload_n dX3_claim_15 rfl ?_
      refine a_iload_n dX3_claim_16 rfl ?_
      refine a_iload_n dX3_claim_17 rfl ?_
      refine a_ViR [0, 1, 2, 3] k_X3_claim_96 (c_X3_preferredSlot (ow := ow) (dr := dr) (tr := tr) (ch := ch) (fo := fo) h2 hM n i hn (by omega)) dX3_claim_18 rfl rfl rfl rfl rfl rfl (Nat.le_of_ble_eq_true rfl) ⟨Nat.le_of_ble_eq_true rfl, Nat.le_of_ble_eq_true rfl⟩ ⟨rfl, rfl⟩ ?_
      refine a_istore dX3_claim_21 (by decide) rfl ?_
      refine a_aload_n dX3_claim_23 rfl ?_
      refine a_iload dX3_claim_24 rfl ?_
      refine a_ViR [0, 1, 2, 3] k_X3_claim_47 (c_X3_isSlot (M := M) (ow := ow) (dr := dr) (tr := tr) (ch := ch) (fo := fo) (nI (pPf M n i))) dX3_claim_26 rfl rfl rfl rfl rfl rfl (Nat.le_of_ble_eq_true rfl) ⟨Nat.le_of_ble_eq_true rfl, Nat.le_of_ble_eq_true rfl⟩ ⟨rfl, rfl⟩ ?_
      refine a_if_eq 62 dX3_claim_29 (by decide) (fun c29 => ?_) (fun c29 => ?_)
      · exact absurd (bI_0 c29) (by rw [sSl_j hp hM]; decide)
      · refine a_aload_n dX3_claim_32 rfl ?_
        refine a_get fl_X3_15 dX3_claim_33 rfl rfl ?_
        refine a_iload dX3_claim_36 rfl ?_
        refine a_iald dX3_claim_38 rfl (by assumption) ?_
        refine a_iconst (-1) dX3_claim_39 (by decide) ?_
        refine a_icmp_ne 62 dX3_claim_40 (by decide) (fun c40 => ?_) (fun c40 => ?_)
        · rw [cl61 (by omega)] at c40
          refine a_iinc (nI (i + 1)) dX3_claim_62 rfl (nI_1 _) (by decide) rfl ?_
          refine a_goto 7 dX3_claim_65 (by decide) ?_
          refine a_drop 4 ?_
          exact ih (i + 1) (by omega) (by rw [hq]; simp [aFo, c40])
        · rw [cl61 (by omega)] at c40
          refine a_aload_n dX3_claim_43 rfl ?_
          refine a_get fl_X3_15 dX3_claim_44 rfl rfl ?_
          refine a_iload dX3_claim_47 rfl ?_
          refine a_iload_n dX3_claim_49 rfl ?_
          refine a_iast dX3_claim_50 rfl (by assumption) ?_
          refine a_aload_n dX3_claim_51 rfl ?_
          refine a_get fl_X3_18 dX3_claim_52 rfl rfl ?_
          refine a_iload_n dX3_claim_55 rfl ?_
          refine a_iload_n dX3_claim_56 rfl ?_
          refine a_iconst 1 dX3_claim_57 (by decide) ?_
          refine a_iadd dX3_claim_58 ?_
          refine a_iast dX3_claim_59 rfl (by assumption) ?_
          refine a_iconst 1 dX3_claim_60 (by decide) ?_
          refine a_zret rfl rfl dX3_claim_61 (by decide) (by decide) ?_
          have e : aFo (fun i => decide (dr (pPf M n i) = -1)) (k + 1) i = some i := by simp [aFo, c40]
          refine ⟨?_, ?_⟩
          · rw [← hr, hq, e]; rfl
          · rw [← hh, cl61 (by omega), cl10 hs, nI_1]
            unfold dCl; rw [hq, e]
            rfl
  exact lp (M - t) t (by omega) hfi
variable {A W : Nat → Nat} {up : Nat → Int32} {ld : Nat → Int64}
theorem c_X3_draw (h2 : 2 ≤ M) (hM : M ≤ 61) (lo : Int32) (G : Nat) (hG : fGw (fun j => nI (A j)) (fun j => nI (W j)) up lo = nI G) (hG16 : G ≤ 16) (hA : ∀ j, j < 10 → A j ≤ 9999) (hW : ∀ j, j < 10 → W j ≤ 16) :
    aWr l X mX3_draw rs9 [.ref 0, .ref 4, .int lo] (aSF M ow dr tr ch fo (fun j => nI (A j)) (fun j => nI (W j)) up ld) none (aSF M ow (dDr M A W (fun j => nI (A j)) up lo G dr tr).1 (dDr M A W (fun j => nI (A j)) up lo G dr tr).2.1 ch fo (fun j => nI (A j)) (fun j => nI (W j)) up ld) := by
  refine aMt.of (by decide) rfl (Nat.le_of_ble_eq_true rfl) ?_
  generalize hr : dDr M A W (fun j => nI (A j)) up lo G dr tr = r
  have hgw := c_X0_greatestWeightWithout (l := l) (X := X) (nm := fun j => nI (A j)) (wt := fun j => nI (W j)) (up := up) (ld := ld) lo
  rw [hG] at hgw
  refine a_aload_n dX3_draw_0 rfl ?_
  refine a_get fl_X3_15 dX3_draw_1 rfl rfl ?_
  refine a_iconst (-1) dX3_draw_4 (by decide) ?_
  refine a_SvW [2] (aSF M ow (fFl 61 (fun _ => -1) dr) tr ch fo (fun j => nI (A j)) (fun j => nI (W j)) up ld) k_X3_draw_35 (c_J7_fill 61 (by decide) dr (-1)) dX3_draw_5 rfl rfl rfl rfl rfl (Nat.le_of_ble_eq_true rfl) ⟨Nat.le_of_ble_eq_true rfl, Nat.le_of_ble_eq_true rfl⟩ ⟨rfl, rfl⟩ (Nat.le_of_ble_eq_true rfl) rfl ?_
  refine a_aload_n dX3_draw_8 rfl ?_
  refine a_get fl_X3_18 dX3_draw_9 rfl rfl ?_
  refine a_iconst 0 dX3_draw_12 (by decide) ?_
  refine a_SvW [3] (aSF M ow (fFl 61 (fun _ => -1) dr) (fFl 10 (fun _ => 0) tr) ch fo (fun j => nI (A j)) (fun j => nI (W j)) up ld) k_X3_draw_35 (c_J7_fill 10 (by decide) tr 0) dX3_draw_13 rfl rfl rfl rfl rfl (Nat.le_of_ble_eq_true rfl) ⟨Nat.le_of_ble_eq_true rfl, Nat.le_of_ble_eq_true rfl⟩ ⟨rfl, rfl⟩ (Nat.le_of_ble_eq_true rfl) rfl ?_
  refine a_aload_n dX3_draw_16 rfl ?_
  refine a_iload_n dX3_draw_17 rfl ?_
  refine a_ViR [4, 5, 6, 7, 8] k_X3_draw_78 (hgw) dX3_draw_18 rfl rfl rfl rfl rfl rfl (Nat.le_of_ble_eq_true rfl) ⟨Nat.le_of_ble_eq_true rfl, Nat.le_of_ble_eq_true rfl⟩ ⟨rfl, rfl⟩ ?_
  refine a_istore_n dX3_draw_21 (by decide) rfl ?_
  have inner : ∀ (rd : Nat), 1 ≤ rd → rd ≤ M → ∀ (hx : ∀ σ : dT, dOk M σ → dOu M A W (dOn (fun j => nI (A j)) up lo) G (M - rd) (rd + 1) σ = r → aJ l X mX3_draw (aEd X mX3_draw rs9 (fun o h' => o = .inl none ∧ h' = aSF M ow r.1 r.2.1 ch fo (fun j => nI (A j)) (fun j => nI (W j)) up ld)) 0 0 122 [.ref 0, .ref 4, .int lo, .int (nI G), .int (nI σ.2.2), .int (nI rd), .null] [] (aSF M ow σ.1 σ.2.1 ch fo (fun j => nI (A j)) (fun j => nI (W j)) up ld)),
      ∀ (k s : Nat) (σ : dT), s + k = 10 → dOk M σ → dOu M A W (dOn (fun j => nI (A j)) up lo) G (M - rd) (rd + 1) (dIn M A W (dOn (fun j => nI (A j)) up lo) G rd k s σ) = r → aJ l X mX3_draw (aEd X mX3_draw rs9 (fun o h' => o = .inl none ∧ h' = aSF M ow r.1 r.2.1 ch fo (fun j => nI (A j)) (fun j => nI (W j)) up ld)) 0 0 56 [.ref 0, .ref 4, .int lo, .int (nI G), .int (nI σ.2.2), .int (nI rd), .int (nI s)] [] (aSF M ow σ.1 σ.2.1 ch fo (fun j => nI (A j)) (fun j => nI (W j)) up ld) := by
    intro rd hrd1 hrdM hx k
    induction k with
    | zero =>
      intro s σ hs hok hq
      obtain rfl : s = 10 := by omega
      refine a_iload dX3_draw_56 rfl ?_
      refine a_bipush 10 dX3_draw_58 (by decide) ?_
      refine a_icmp_ge 122 dX3_draw_60 (by decide) (fun _ => ?_) (fun z => absurd ge10_t z)
      refine a_drop 6 ?_
      exact hx σ hok hq
    | succ k ih =>
      intro s σ hs hok hq
      have hf1 := hok.1
      refine a_iload dX3_draw_56 rfl ?_
      refine a_bipush 10 dX3_draw_58 (by decide) ?_
      refine a_icmp_ge 122 dX3_draw_60 (by decide) (fun z => absurd z (ge10_f (by omega))) (fun _ => ?_)
      rcases Nat.eq_zero_or_pos σ.2.2 with hf | hf
      · rw [hf]
        refine a_iload dX3_draw_63 rfl ?_
        refine a_if_le 122 dX3_draw_65 (by decide) (fun _ => ?_) (fun z => absurd (by decide) z)
        refine a_drop 6 ?_
        have := hx σ hok (by rw [← hq]; simp [dIn, hf])
        rw [hf] at this
        exact this
      · refine a_iload dX3_draw_63 rfl ?_
        refine a_if_le 122 dX3_draw_65 (by decide) (fun z => absurd z (nI_nle hf (by omega))) (fun _ => ?_)
        have hcont : ∀ σ' : dT, dOk M σ' → dTu M A W (dOn (fun j => nI (A j)) up lo) G rd s σ = σ' → aJ l X mX3_draw (aEd X mX3_draw rs9 (fun o h' => o = .inl none ∧ h' = aSF M ow r.1 r.2.1 ch fo (fun j => nI (A j)) (fun j => nI (W j)) up ld)) 0 0 116 [.ref 0, .ref 4, .int lo, .int (nI G), .int (nI σ'.2.2), .int (nI rd), .int (nI s)] [] (aSF M ow σ'.1 σ'.2.1 ch fo (fun j => nI (A j)) (fun j => nI (W j)) up ld) := by
          intro σ' hok' he
          refine a_iinc (nI (s + 1)) dX3_draw_116 rfl (nI_1 _) (by decide) rfl ?_
          refine a_goto 56 dX3_draw_119 (by decide) ?_
          exact ih (s + 1) σ' (by omega) hok' (by rw [← hq, ← he]; simp [dIn, hf])
        refine a_iload dX3_draw_68 rfl ?_
        refine a_iload_n dX3_draw_70 rfl ?_
        refine a_icmp_eq 116 dX3_draw_71 (by decide) (fun c71 => ?_) (fun c71 => ?_)
        · exact hcont σ hok (by simp [dTu, dOn, c71])
        · refine a_aload_n dX3_draw_74 rfl ?_
          refine a_iload dX3_draw_75 rfl ?_
          refine a_ViR [4, 5, 6, 7, 8] k_X3_draw_73 (c_X0_isUp (nm := fun j => nI (A j)) (wt := fun j => nI (W j)) (up := up) (ld := ld) (nI s)) dX3_draw_77 rfl rfl rfl rfl rfl rfl (Nat.le_of_ble_eq_true rfl) ⟨Nat.le_of_ble_eq_true rfl, Nat.le_of_ble_eq_true rfl⟩ ⟨rfl, rfl⟩ ?_
          refine a_if_eq 116 dX3_draw_80 (by decide) (fun c80 => ?_) (fun c80 => ?_)
          · exact hcont σ hok (by simp [dTu, dOn, bI_0 c80])
          · have hup := bI_1 c80
            have hhs : fHs (fun j => nI (A j)) (nI s) = true := by
              simp only [fUp, Bool.and_eq_true] at hup; exact hup.1
            have hwt := c_X0_weight (l := l) (X := X) (nm := fun j => nI (A j)) (wt := fun j => nI (W j)) (up := up) (ld := ld) (nI s)
            have hnm := c_X0_name (l := l) (X := X) (nm := fun j => nI (A j)) (wt := fun j => nI (W j)) (up := up) (ld := ld) (nI s)
            rw [if_pos hhs, cl10 (by omega)] at hwt hnm
            refine a_iload dX3_draw_83 rfl ?_
            refine a_aload_n dX3_draw_85 rfl ?_
            refine a_iload dX3_draw_86 rfl ?_
            refine a_ViR [4, 5, 6, 7, 8] k_X3_draw_82 (hwt) dX3_draw_88 rfl rfl rfl rfl rfl rfl (Nat.le_of_ble_eq_true rfl) ⟨Nat.le_of_ble_eq_true rfl, Nat.le_of_ble_eq_true rfl⟩ ⟨rfl, rfl⟩ ?_
            refine a_iload_n dX3_draw_91 rfl ?_
            refine a_SiR [] k_X3_draw_85 (c_X3_hasTurn rd (W s) G hrd1 (by omega) (hW s (by omega)) hG16) dX3_draw_92 rfl rfl rfl rfl rfl (Nat.le_of_ble_eq_true rfl) ⟨Nat.le_of_ble_eq_true rfl, Nat.le_of_ble_eq_true rfl⟩ ⟨rfl, rfl⟩ ?_
            refine a_if_eq 116 dX3_draw_95 (by decide) (fun c95 => ?_) (fun c95 => ?_)
            · exact hcont σ hok (by simp [dTu, bI_0 c95])
            · have hon : (dOn (fun j => nI (A j)) up lo s && pTn rd (W s) G) = true := by simp [dOn, c71, hup, bI_1 c95]
              have htu : dTu M A W (dOn (fun j => nI (A j)) up lo) G rd s σ = dCl M (A s) s σ := by simp [dTu, hon]
              have hok2 : dOk M (dCl M (A s) s σ) := dCl_ok (by omega) hM hok
              refine a_aload_n dX3_draw_98 rfl ?_
              refine a_iload dX3_draw_99 rfl ?_
              refine a_aload_n dX3_draw_101 rfl ?_
              refine a_iload dX3_draw_102 rfl ?_
              refine a_ViR [4, 5, 6, 7, 8] k_X3_draw_89 (hnm) dX3_draw_104 rfl rfl rfl rfl rfl rfl (Nat.le_of_ble_eq_true rfl) ⟨Nat.le_of_ble_eq_true rfl, Nat.le_of_ble_eq_true rfl⟩ ⟨rfl, rfl⟩ ?_
              refine a_ViW [0, 1, 2, 3] (aSF M ow (dCl M (A s) s σ).1 (dCl M (A s) s σ).2.1 ch fo (fun j => nI (A j)) (fun j => nI (W j)) up ld) k_X3_draw_92 (c_X3_claim (ow := ow) (dr := σ.1) (tr := σ.2.1) (ch := ch) (fo := fo) h2 hM s (A s) (by omega) (hA s (by omega)) σ.2.2 hok) dX3_draw_107 rfl rfl rfl rfl rfl rfl (Nat.le_of_ble_eq_true rfl) ⟨Nat.le_of_ble_eq_true rfl, Nat.le_of_ble_eq_true rfl⟩ ⟨rfl, rfl⟩ (Nat.le_of_ble_eq_true rfl) rfl ?_
              refine a_if_eq 116 dX3_draw_110 (by decide) (fun c110 => ?_) (fun c110 => ?_)
              · have hno : dFi M (A s) s σ = none := by
                  have := bI_0 c110
                  cases hz : dFi M (A s) s σ with
                  | none => rfl
                  | some i => rw [hz] at this; cases this
                have hsame : dCl M (A s) s σ = σ := by unfold dCl; rw [hno]
                rw [hsame] at htu ⊢
                exact hcont σ hok htu
              · obtain ⟨i, hsm⟩ : ∃ i, dFi M (A s) s σ = some i := by
                  have := bI_1 c110
                  cases hz : dFi M (A s) s σ with
                  | some i => exact ⟨i, rfl⟩
                  | none => rw [hz] at this; cases this
                obtain ⟨z, hz⟩ : ∃ z, σ.2.2 = z + 1 := ⟨σ.2.2 - 1, by omega⟩
                have hzf : (dCl M (A s) s σ).2.2 = z := by unfold dCl; rw [hsm]; show σ.2.2 - 1 = z; omega
                rw [hz]
                refine a_iinc (nI z) dX3_draw_113 rfl (pk_m1 _) (by decide) rfl ?_
                have := hcont (dCl M (A s) s σ) hok2 htu
                rw [hzf] at this
                exact this
  have outer : ∀ (k rd : Nat) (σ : dT), rd + k = M + 1 → 1 ≤ rd → dOk M σ → dOu M A W (dOn (fun j => nI (A j)) up lo) G k rd σ = r → aJ l X mX3_draw (aEd X mX3_draw rs9 (fun o h' => o = .inl none ∧ h' = aSF M ow r.1 r.2.1 ch fo (fun j => nI (A j)) (fun j => nI (W j)) up ld)) 0 0 39 [.ref 0, .ref 4, .int lo, .int (nI G), .int (nI σ.2.2), .int (nI rd), .null] [] (aSF M ow σ.1 σ.2.1 ch fo (fun j => nI (A j)) (fun j => nI (W j)) up ld) := by
    intro k
    induction k with
    | zero =>
      intro rd σ hrd h1 hok hq
      refine a_iload dX3_draw_39 rfl ?_
      refine a_aload_n dX3_draw_41 rfl ?_
      refine a_get fl_X3_31 dX3_draw_42 rfl rfl ?_
      refine a_icmp_gt 128 dX3_draw_45 (by decide) (fun _ => ?_) (fun z => absurd (nI_lt (by omega) (by omega)) z)
      refine a_vret rfl dX3_draw_128 (by decide) (by decide) ?_
      exact ⟨rfl, by rw [← hq]; rfl⟩
    | succ k ih =>
      intro rd σ hrd h1 hok hq
      have hf1 := hok.1
      refine a_iload dX3_draw_39 rfl ?_
      refine a_aload_n dX3_draw_41 rfl ?_
      refine a_get fl_X3_31 dX3_draw_42 rfl rfl ?_
      refine a_icmp_gt 128 dX3_draw_45 (by decide) (fun z => absurd z (nI_nlt (by omega) (by omega))) (fun _ => ?_)
      rcases Nat.eq_zero_or_pos σ.2.2 with hf | hf
      · rw [hf]
        refine a_iload dX3_draw_48 rfl ?_
        refine a_if_le 128 dX3_draw_50 (by decide) (fun _ => ?_) (fun z => absurd (by decide) z)
        refine a_vret rfl dX3_draw_128 (by decide) (by decide) ?_
        exact ⟨rfl, by rw [← hq]; simp [dOu, hf]⟩
      · refine a_iload dX3_draw_48 rfl ?_
        refine a_if_le 128 dX3_draw_50 (by decide) (fun z => absurd z (nI_nle hf (by omega))) (fun _ => ?_)
        refine a_iconst 0 dX3_draw_53 (by decide) ?_
        refine a_istore dX3_draw_54 (by decide) rfl ?_
        have hk : k = M - rd := by omega
        refine inner rd h1 (by omega) (fun σ' hok' he => ?_) 10 0 σ rfl hok (by rw [← hq, ← hk]; simp [dOu, hf])
        refine a_iinc (nI (rd + 1)) dX3_draw_122 rfl (nI_1 _) (by decide) rfl ?_
        refine a_goto 39 dX3_draw_125 (by decide) ?_
        exact ih (rd + 1) σ' (by omega) (by omega) hok' (by rw [hk]; exact he)
  have hok0 : ∀ f, f ≤ M → dOk M (fFl 61 (fun _ => -1) dr, fFl 10 (fun _ => 0) tr, f) := fun f hf => ⟨hf, fun j hj => ⟨0, by omega, by simp [fFl, hj]; rfl⟩⟩
  rcases Nat.eq_zero_or_pos G with hg | hg
  · rw [hg]
    refine a_iload_n dX3_draw_22 rfl ?_
    refine a_if_le 33 dX3_draw_23 (by decide) (fun _ => ?_) (fun z => absurd (by decide) z)
    refine a_iconst 0 dX3_draw_33 (by decide) ?_
    refine a_istore dX3_draw_34 (by decide) rfl ?_
    refine a_iconst 1 dX3_draw_36 (by decide) ?_
    refine a_istore dX3_draw_37 (by decide) rfl ?_
    have := outer M 1 (fFl 61 (fun _ => -1) dr, fFl 10 (fun _ => 0) tr, 0) (by omega) (Nat.le_refl _) (hok0 0 (by omega)) (by rw [← hr]; simp [dDr, hg])
    rw [hg] at this
    exact this
  · refine a_iload_n dX3_draw_22 rfl ?_
    refine a_if_le 33 dX3_draw_23 (by decide) (fun z => absurd z (nI_nle hg (by omega))) (fun _ => ?_)
    refine a_aload_n dX3_draw_26 rfl ?_
    refine a_get fl_X3_31 dX3_draw_27 rfl rfl ?_
    refine a_goto 34 dX3_draw_30 (by decide) ?_
    refine a_istore dX3_draw_34 (by decide) rfl ?_
    refine a_iconst 1 dX3_draw_36 (by decide) ?_
    refine a_istore dX3_draw_37 (by decide) rfl ?_
    exact outer M 1 (fFl 61 (fun _ => -1) dr, fFl 10 (fun _ => 0) tr, M) (by omega) (Nat.le_refl _) (hok0 M (Nat.le_refl _)) (by rw [← hr]; simp [dDr, hg])
end DRW
end
section
/-! written by wip/whole/pp.py out of wip/whole/src/20.hist.lean -/
theorem dX3_init_0 : decode cX3_init 0 = .ok (.aload_n 0, 1) := by decide +kernel
theorem dX3_init_1 : decode cX3_init 1 = .ok (.invokespecial 3, 3) := by decide +kernel
theorem dX3_init_4 : decode cX3_init 4 = .ok (.aload_n 0, 1) := by decide +kernel
theorem dX3_init_5 : decode cX3_init 5 = .ok (.bipush 61, 2) := by decide +kernel
theorem dX3_init_7 : decode cX3_init 7 = .ok (.newarray .int, 2) := by decide +kernel
theorem dX3_init_9 : decode cX3_init 9 = .ok (.putfield 9, 3) := by decide +kernel
theorem dX3_init_12 : decode cX3_init 12 = .ok (.aload_n 0, 1) := by decide +kernel
theorem dX3_init_13 : decode cX3_init 13 = .ok (.bipush 61, 2) := by decide +kernel
theorem dX3_init_15 : decode cX3_init 15 = .ok (.newarray .int, 2) := by decide +kernel
theorem dX3_init_17 : decode cX3_init 17 = .ok (.putfield 15, 3) := by decide +kernel
theorem dX3_init_20 : decode cX3_init 20 = .ok (.aload_n 0, 1) := by decide +kernel
theorem dX3_init_21 : decode cX3_init 21 = .ok (.bipush 10, 2) := by decide +kernel
theorem dX3_init_23 : decode cX3_init 23 = .ok (.newarray .int, 2) := by decide +kernel
theorem dX3_init_25 : decode cX3_init 25 = .ok (.putfield 18, 3) := by decide +kernel
theorem dX3_init_28 : decode cX3_init 28 = .ok (.aload_n 0, 1) := by decide +kernel
theorem dX3_init_29 : decode cX3_init 29 = .ok (.iload_n 1, 1) := by decide +kernel
theorem dX3_init_30 : decode cX3_init 30 = .ok (.invokevirtual 21, 3) := by decide +kernel
theorem dX3_init_33 : decode cX3_init 33 = .ok (.return_, 1) := by decide +kernel
theorem dX3_startAnew_0 : decode cX3_startAnew 0 = .ok (.aload_n 0, 1) := by decide +kernel
theorem dX3_startAnew_1 : decode cX3_startAnew 1 = .ok (.iload_n 1, 1) := by decide +kernel
theorem dX3_startAnew_2 : decode cX3_startAnew 2 = .ok (.bipush 61, 2) := by decide +kernel
theorem dX3_startAnew_4 : decode cX3_startAnew 4 = .ok (.invokestatic 25, 3) := by decide +kernel
theorem dX3_startAnew_7 : decode cX3_startAnew 7 = .ok (.putfield 31, 3) := by decide +kernel
theorem dX3_startAnew_10 : decode cX3_startAnew 10 = .ok (.aload_n 0, 1) := by decide +kernel
theorem dX3_startAnew_11 : decode cX3_startAnew 11 = .ok (.getfield 9, 3) := by decide +kernel
theorem dX3_startAnew_14 : decode cX3_startAnew 14 = .ok (.iconst (-1), 1) := by decide +kernel
theorem dX3_startAnew_15 : decode cX3_startAnew 15 = .ok (.invokestatic 35, 3) := by decide +kernel
theorem dX3_startAnew_18 : decode cX3_startAnew 18 = .ok (.aload_n 0, 1) := by decide +kernel
theorem dX3_startAnew_19 : decode cX3_startAnew 19 = .ok (.iconst 0, 1) := by decide +kernel
theorem dX3_startAnew_20 : decode cX3_startAnew 20 = .ok (.putfield 41, 3) := by decide +kernel
theorem dX3_startAnew_23 : decode cX3_startAnew 23 = .ok (.aload_n 0, 1) := by decide +kernel
theorem dX3_startAnew_24 : decode cX3_startAnew 24 = .ok (.iconst 0, 1) := by decide +kernel
theorem dX3_startAnew_25 : decode cX3_startAnew 25 = .ok (.putfield 44, 3) := by decide +kernel
theorem dX3_startAnew_28 : decode cX3_startAnew 28 = .ok (.return_, 1) := by decide +kernel
theorem dX3_rebuild_0 : decode cX3_rebuild 0 = .ok (.aload_n 0, 1) := by decide +kernel
theorem dX3_rebuild_1 : decode cX3_rebuild 1 = .ok (.aload_n 1, 1) := by decide +kernel
theorem dX3_rebuild_2 : decode cX3_rebuild 2 = .ok (.iconst (-1), 1) := by decide +kernel
theorem dX3_rebuild_3 : decode cX3_rebuild 3 = .ok (.invokevirtual 61, 3) := by decide +kernel
theorem dX3_rebuild_6 : decode cX3_rebuild 6 = .ok (.aload_n 0, 1) := by decide +kernel
theorem dX3_rebuild_7 : decode cX3_rebuild 7 = .ok (.aload_n 0, 1) := by decide +kernel
theorem dX3_rebuild_8 : decode cX3_rebuild 8 = .ok (.invokevirtual 65, 3) := by decide +kernel
theorem dX3_rebuild_11 : decode cX3_rebuild 11 = .ok (.putfield 41, 3) := by decide +kernel
theorem dX3_rebuild_14 : decode cX3_rebuild 14 = .ok (.aload_n 0, 1) := by decide +kernel
theorem dX3_rebuild_15 : decode cX3_rebuild 15 = .ok (.aload_n 0, 1) := by decide +kernel
theorem dX3_rebuild_16 : decode cX3_rebuild 16 = .ok (.aload_n 1, 1) := by decide +kernel
theorem dX3_rebuild_17 : decode cX3_rebuild 17 = .ok (.invokevirtual 69, 3) := by decide +kernel
theorem dX3_rebuild_20 : decode cX3_rebuild 20 = .ok (.putfield 44, 3) := by decide +kernel
theorem dX3_rebuild_23 : decode cX3_rebuild 23 = .ok (.aload_n 0, 1) := by decide +kernel
theorem dX3_rebuild_24 : decode cX3_rebuild 24 = .ok (.getfield 9, 3) := by decide +kernel
theorem dX3_rebuild_27 : decode cX3_rebuild 27 = .ok (.astore_n 2, 1) := by decide +kernel
theorem dX3_rebuild_28 : decode cX3_rebuild 28 = .ok (.aload_n 0, 1) := by decide +kernel
theorem dX3_rebuild_29 : decode cX3_rebuild 29 = .ok (.aload_n 0, 1) := by decide +kernel
theorem dX3_rebuild_30 : decode cX3_rebuild 30 = .ok (.getfield 15, 3) := by decide +kernel
theorem dX3_rebuild_33 : decode cX3_rebuild 33 = .ok (.putfield 9, 3) := by decide +kernel
theorem dX3_rebuild_36 : decode cX3_rebuild 36 = .ok (.aload_n 0, 1) := by decide +kernel
theorem dX3_rebuild_37 : decode cX3_rebuild 37 = .ok (.aload_n 2, 1) := by decide +kernel
theorem dX3_rebuild_38 : decode cX3_rebuild 38 = .ok (.putfield 15, 3) := by decide +kernel
theorem dX3_rebuild_41 : decode cX3_rebuild 41 = .ok (.return_, 1) := by decide +kernel
theorem dX3_changedWithout_0 : decode cX3_changedWithout 0 = .ok (.aload_n 0, 1) := by decide +kernel
theorem dX3_changedWithout_1 : decode cX3_changedWithout 1 = .ok (.aload_n 1, 1) := by decide +kernel
theorem dX3_changedWithout_2 : decode cX3_changedWithout 2 = .ok (.iload_n 2, 1) := by decide +kernel
theorem dX3_changedWithout_3 : decode cX3_changedWithout 3 = .ok (.invokevirtual 61, 3) := by decide +kernel
theorem dX3_changedWithout_6 : decode cX3_changedWithout 6 = .ok (.aload_n 0, 1) := by decide +kernel
theorem dX3_changedWithout_7 : decode cX3_changedWithout 7 = .ok (.invokevirtual 65, 3) := by decide +kernel
theorem dX3_changedWithout_10 : decode cX3_changedWithout 10 = .ok (.ireturn, 1) := by decide +kernel
theorem dX4_init_0 : decode cX4_init 0 = .ok (.aload_n 0, 1) := by decide +kernel
theorem dX4_init_1 : decode cX4_init 1 = .ok (.invokespecial 1, 3) := by decide +kernel
theorem dX4_init_4 : decode cX4_init 4 = .ok (.aload_n 0, 1) := by decide +kernel
theorem dX4_init_5 : decode cX4_init 5 = .ok (.new 7, 3) := by decide +kernel
theorem dX4_init_8 : decode cX4_init 8 = .ok (.dup, 1) := by decide +kernel
theorem dX4_init_9 : decode cX4_init 9 = .ok (.invokespecial 9, 3) := by decide +kernel
theorem dX4_init_12 : decode cX4_init 12 = .ok (.putfield 10, 3) := by decide +kernel
theorem dX4_init_15 : decode cX4_init 15 = .ok (.aload_n 0, 1) := by decide +kernel
theorem dX4_init_16 : decode cX4_init 16 = .ok (.new 16, 3) := by decide +kernel
theorem dX4_init_19 : decode cX4_init 19 = .ok (.dup, 1) := by decide +kernel
theorem dX4_init_20 : decode cX4_init 20 = .ok (.invokespecial 18, 3) := by decide +kernel
theorem dX4_init_23 : decode cX4_init 23 = .ok (.putfield 19, 3) := by decide +kernel
theorem dX4_init_26 : decode cX4_init 26 = .ok (.return_, 1) := by decide +kernel
theorem dX4_take_0 : decode cX4_take 0 = .ok (.aload_n 0, 1) := by decide +kernel
theorem dX4_take_1 : decode cX4_take 1 = .ok (.getfield 10, 3) := by decide +kernel
theorem dX4_take_4 : decode cX4_take 4 = .ok (.aload_n 1, 1) := by decide +kernel
theorem dX4_take_5 : decode cX4_take 5 = .ok (.invokevirtual 23, 3) := by decide +kernel
theorem dX4_take_8 : decode cX4_take 8 = .ok (.aload_n 0, 1) := by decide +kernel
theorem dX4_take_9 : decode cX4_take 9 = .ok (.getfield 19, 3) := by decide +kernel
theorem dX4_take_12 : decode cX4_take 12 = .ok (.aload_n 2, 1) := by decide +kernel
theorem dX4_take_13 : decode cX4_take 13 = .ok (.invokevirtual 27, 3) := by decide +kernel
theorem dX4_take_16 : decode cX4_take 16 = .ok (.return_, 1) := by decide +kernel
theorem dX4_give_0 : decode cX4_give 0 = .ok (.aload_n 1, 1) := by decide +kernel
theorem dX4_give_1 : decode cX4_give 1 = .ok (.aload_n 0, 1) := by decide +kernel
theorem dX4_give_2 : decode cX4_give 2 = .ok (.getfield 10, 3) := by decide +kernel
theorem dX4_give_5 : decode cX4_give 5 = .ok (.invokevirtual 23, 3) := by decide +kernel
theorem dX4_give_8 : decode cX4_give 8 = .ok (.aload_n 2, 1) := by decide +kernel
theorem dX4_give_9 : decode cX4_give 9 = .ok (.aload_n 0, 1) := by decide +kernel
theorem dX4_give_10 : decode cX4_give 10 = .ok (.getfield 19, 3) := by decide +kernel
theorem dX4_give_13 : decode cX4_give 13 = .ok (.invokevirtual 27, 3) := by decide +kernel
theorem dX4_give_16 : decode cX4_give 16 = .ok (.return_, 1) := by decide +kernel
theorem k_X3_startAnew_35 : aKS mX3_startAnew mJ7_fill_53178 35 2 := ⟨cb_J7_fill_53178, rfl, ml_X3_35, st_J7_fill_53178, ⟨Nat.le_of_ble_eq_true rfl, Nat.le_of_ble_eq_true rfl⟩⟩
theorem k_X3_init_21 : aKV mX3_init mX3_startAnew 21 1 3 := ⟨cb_X3_startAnew, rfl, ml_X3_21, iv_X3_startAnew, sl_X3_startAnew, ⟨_, _, rfl⟩, ⟨Nat.le_of_ble_eq_true rfl, Nat.le_of_ble_eq_true rfl⟩⟩
theorem k_X3_rebuild_61 : aKV mX3_rebuild mX3_draw 61 2 3 := ⟨cb_X3_draw, rfl, ml_X3_61, iv_X3_draw, sl_X3_draw, ⟨_, _, rfl⟩, ⟨Nat.le_of_ble_eq_true rfl, Nat.le_of_ble_eq_true rfl⟩⟩
theorem k_X3_rebuild_65 : aKV mX3_rebuild mX3_countChanged 65 0 3 := ⟨cb_X3_countChanged, rfl, ml_X3_65, iv_X3_countChanged, sl_X3_countChanged, ⟨_, _, rfl⟩, ⟨Nat.le_of_ble_eq_true rfl, Nat.le_of_ble_eq_true rfl⟩⟩
theorem k_X3_rebuild_69 : aKV mX3_rebuild mX3_countForced 69 1 3 := ⟨cb_X3_countForced, rfl, ml_X3_69, iv_X3_countForced, sl_X3_countForced, ⟨_, _, rfl⟩, ⟨Nat.le_of_ble_eq_true rfl, Nat.le_of_ble_eq_true rfl⟩⟩
theorem k_X3_changedWithout_61 : aKV mX3_changedWithout mX3_draw 61 2 3 := ⟨cb_X3_draw, rfl, ml_X3_61, iv_X3_draw, sl_X3_draw, ⟨_, _, rfl⟩, ⟨Nat.le_of_ble_eq_true rfl, Nat.le_of_ble_eq_true rfl⟩⟩
theorem k_X3_changedWithout_65 : aKV mX3_changedWithout mX3_countChanged 65 0 3 := ⟨cb_X3_countChanged, rfl, ml_X3_65, iv_X3_countChanged, sl_X3_countChanged, ⟨_, _, rfl⟩, ⟨Nat.le_of_ble_eq_true rfl, Nat.le_of_ble_eq_true rfl⟩⟩
theorem k_X4_init_9 : aKI mX4_init mX0_init 9 0 := ⟨cb_X0_init, rfl, rfl, (Or.inr ⟨_, mn_X4_9⟩), iv_X0_init, rfl, ⟨Nat.le_of_ble_eq_true rfl, Nat.le_of_ble_eq_true rfl⟩⟩
theorem k_X4_init_18 : aKI mX4_init mX2_init 18 0 := ⟨cb_X2_init, rfl, rfl, (Or.inr ⟨_, mn_X4_18⟩), iv_X2_init, rfl, ⟨Nat.le_of_ble_eq_true rfl, Nat.le_of_ble_eq_true rfl⟩⟩
theorem k_X4_take_23 : aKV mX4_take mX0_copyFrom 23 1 0 := ⟨cb_X0_copyFrom, rfl, ml_X4_23, iv_X0_copyFrom, sl_X0_copyFrom, ⟨_, _, rfl⟩, ⟨Nat.le_of_ble_eq_true rfl, Nat.le_of_ble_eq_true rfl⟩⟩
theorem k_X4_take_27 : aKV mX4_take mX2_copyFrom 27 1 2 := ⟨cb_X2_copyFrom, rfl, ml_X4_27, iv_X2_copyFrom, sl_X2_copyFrom, ⟨_, _, rfl⟩, ⟨Nat.le_of_ble_eq_true rfl, Nat.le_of_ble_eq_true rfl⟩⟩
theorem k_X4_give_23 : aKV mX4_give mX0_copyFrom 23 1 0 := ⟨cb_X0_copyFrom, rfl, ml_X4_23, iv_X0_copyFrom, sl_X0_copyFrom, ⟨_, _, rfl⟩, ⟨Nat.le_of_ble_eq_true rfl, Nat.le_of_ble_eq_true rfl⟩⟩
theorem k_X4_give_27 : aKV mX4_give mX2_copyFrom 27 1 2 := ⟨cb_X2_copyFrom, rfl, ml_X4_27, iv_X2_copyFrom, sl_X2_copyFrom, ⟨_, _, rfl⟩, ⟨Nat.le_of_ble_eq_true rfl, Nat.le_of_ble_eq_true rfl⟩⟩
/-! ===== SlotTable: rebuild; Snapshot, History ===== -/
theorem vpD {i : Int32} {n : Nat} (h : decide (¬ (i < 0 ∨ n ≤ i.toNatClampNeg)) = true) : vp_in i n := by unfold vp_in; exact of_decide_eq_true h
section RBD
variable {l : Launch} {X : aX} {M : Nat} {ow dr tr : Nat → Int32} {ch fo : Int32}
theorem c_X3_startAnew (n : Nat) (hn : n ≤ 61) : aWr l X mX3_startAnew rs4 [.ref 0, .int (nI n)] (aSl M ow dr tr ch fo) none (aSl n (fFl 61 (fun _ => -1) ow) dr tr 0 0) := by
  refine aMt.of (by decide) rfl (Nat.le_of_ble_eq_true rfl) ?_
  refine a_aload_n dX3_startAnew_0 rfl ?_
  refine a_iload_n dX3_startAnew_1 rfl ?_
  refine a_bipush 61 dX3_startAnew_2 (by decide) ?_
  refine a_min mm_X3_25 mt_min_st ini_J9 mt_min_cd dX3_startAnew_4 (by decide) (Nat.le_of_ble_eq_true rfl) (by decide) (by decide) ?_
  rw [if_neg (show ¬ (61 : Int32) < nI n from nI_nlt (a := 61) hn (by decide))]
  refine a_put fp_X3_31 dX3_startAnew_7 rfl (Nat.le_of_ble_eq_true rfl) (fun _ => ⟨rfl, rfl⟩) ?_
  refine a_aload_n dX3_startAnew_10 rfl ?_
  refine a_get fl_X3_9 dX3_startAnew_11 rfl rfl ?_
  refine a_iconst (-1) dX3_startAnew_14 (by decide) ?_
  refine a_SvW [1] ([aOb 3 [.int (nI n), .ref 1, .ref 2, .ref 3, .int ch, .int fo], aIa 61 (fFl 61 (fun _ => -1) ow), aIa 61 dr, aIa 10 tr]) k_X3_startAnew_35 (c_J7_fill 61 (by decide) ow (-1)) dX3_startAnew_15 rfl rfl rfl rfl rfl (Nat.le_of_ble_eq_true rfl) ⟨Nat.le_of_ble_eq_true rfl, Nat.le_of_ble_eq_true rfl⟩ ⟨rfl, rfl⟩ (Nat.le_of_ble_eq_true rfl) rfl ?_
  refine a_aload_n dX3_startAnew_18 rfl ?_
  refine a_iconst 0 dX3_startAnew_19 (by decide) ?_
  refine a_put fp_X3_41 dX3_startAnew_20 rfl (Nat.le_of_ble_eq_true rfl) (fun _ => ⟨rfl, rfl⟩) ?_
  refine a_aload_n dX3_startAnew_23 rfl ?_
  refine a_iconst 0 dX3_startAnew_24 (by decide) ?_
  refine a_put fp_X3_44 dX3_startAnew_25 rfl (Nat.le_of_ble_eq_true rfl) (fun _ => ⟨rfl, rfl⟩) ?_
  refine a_vret rfl dX3_startAnew_28 (by decide) (by decide) ?_
  exact ⟨rfl, rfl⟩
theorem c_X3_init (n : Nat) (hn : n ≤ 61) : aWr l X mX3_init [0] [.ref 0, .int (nI n)] [aOb 3 [.int 0, .null, .null, .null, .int 0, .int 0]] none (aSl n (fFl 61 (fun _ => -1) (fun _ => 0)) (fun _ => 0) (fun _ => 0) 0 0) := by
  refine aMt.of (by decide) rfl (Nat.le_of_ble_eq_true rfl) ?_
  refine a_aload_n dX3_init_0 rfl ?_
  refine a_objInit ml_X3_3 oi_iv oi_cd dX3_init_1 (by decide) (Nat.le_of_ble_eq_true rfl) ?_
  refine a_aload_n dX3_init_4 rfl ?_
  refine a_bipush 61 dX3_init_5 (by decide) ?_
  refine a_newi 61 ar_int (by decide) (by decide) (by decide) dX3_init_7 rfl (by decide) (by decide) ?_
  refine a_put fp_X3_9 dX3_init_9 rfl (Nat.le_of_ble_eq_true rfl) (fun _ => ⟨rfl, rfl⟩) ?_
  refine a_aload_n dX3_init_12 rfl ?_
  refine a_bipush 61 dX3_init_13 (by decide) ?_
  refine a_newi 61 ar_int (by decide) (by decide) (by decide) dX3_init_15 rfl (by decide) (by decide) ?_
  refine a_put fp_X3_15 dX3_init_17 rfl (Nat.le_of_ble_eq_true rfl) (fun _ => ⟨rfl, rfl⟩) ?_
  refine a_aload_n dX3_init_20 rfl ?_
  refine a_bipush 10 dX3_init_21 (by decide) ?_
  refine a_newi 10 ar_int (by decide) (by decide) (by decide) dX3_init_23 rfl (by decide) (by decide) ?_
  refine a_putF fp_X3_18 rfl dX3_init_25 rfl (Nat.le_of_ble_eq_true rfl) (fun _ => ⟨rfl, rfl⟩) ?_
  refine a_aload_n dX3_init_28 rfl ?_
  refine a_iload_n dX3_init_29 rfl ?_
  refine a_VvW [0, 1, 2, 3] (aSl n (fFl 61 (fun _ => -1) (fun _ => 0)) (fun _ => 0) (fun _ => 0) 0 0) k_X3_init_21 (c_X3_startAnew (M := 0) (ow := fun _ => 0) (dr := fun _ => 0) (tr := fun _ => 0) (ch := 0) (fo := 0) n hn) dX3_init_30 rfl rfl rfl rfl rfl rfl (Nat.le_of_ble_eq_true rfl) ⟨Nat.le_of_ble_eq_true rfl, Nat.le_of_ble_eq_true rfl⟩ ⟨rfl, rfl⟩ (Nat.le_of_ble_eq_true rfl) rfl ?_
  refine a_vret rfl dX3_init_33 (by decide) (by decide) ?_
  exact ⟨rfl, rfl⟩
variable {A W : Nat → Nat} {up : Nat → Int32} {ld : Nat → Int64}
abbrev rsR : List Nat := [0, 3, 4, 5, 6, 7, 8]
theorem c_X3_rebuild (h2 : 2 ≤ M) (hM : M ≤ 61) (G : Nat) (hG : fGw (fun j => nI (A j)) (fun j => nI (W j)) up (-1) = nI G) (hG16 : G ≤ 16) (hA : ∀ j, j < 10 → A j ≤ 9999) (hW : ∀ j, j < 10 → W j ≤ 16) {D : dT} (hD : dDr M A W (fun j => nI (A j)) up (-1) G dr tr = D) :
    aWr l X mX3_rebuild rsR [.ref 0, .ref 4] (aSF M ow dr tr ch fo (fun j => nI (A j)) (fun j => nI (W j)) up ld) none (aSF M D.1 ow D.2.1 (sCc ow D.1 M) (sCf ow (fun j => nI (A j)) up M) (fun j => nI (A j)) (fun j => nI (W j)) up ld) := by
  refine aMt.of (by decide) rfl (Nat.le_of_ble_eq_true rfl) ?_
  have hdr := c_X3_draw (l := l) (X := X) (ow := ow) (dr := dr) (tr := tr) (ch := ch) (fo := fo) (ld := ld) h2 hM (-1) G hG hG16 hA hW
  rw [hD] at hdr
  refine a_aload_n dX3_rebuild_0 rfl ?_
  refine a_aload_n dX3_rebuild_1 rfl ?_
  refine a_iconst (-1) dX3_rebuild_2 (by decide) ?_
  refine a_VvW [0, 1, 2, 3, 4, 5, 6, 7, 8] (aSF M ow D.1 D.2.1 ch fo (fun j => nI (A j)) (fun j => nI (W j)) up ld) k_X3_rebuild_61 (hdr) dX3_rebuild_3 rfl rfl rfl rfl rfl rfl (Nat.le_of_ble_eq_true rfl) ⟨Nat.le_of_ble_eq_true rfl, Nat.le_of_ble_eq_true rfl⟩ ⟨rfl, rfl⟩ (Nat.le_of_ble_eq_true rfl) rfl ?_
  refine a_aload_n dX3_rebuild_6 rfl ?_
  refine a_aload_n dX3_rebuild_7 rfl ?_
  refine a_ViR [0, 1, 2, 3] k_X3_rebuild_65 (c_X3_countChanged (ow := ow) (dr := D.1) (tr := D.2.1) (ch := ch) (fo := fo) hM) dX3_rebuild_8 rfl rfl rfl rfl rfl rfl (Nat.le_of_ble_eq_true rfl) ⟨Nat.le_of_ble_eq_true rfl, Nat.le_of_ble_eq_true rfl⟩ ⟨rfl, rfl⟩ ?_
  refine a_put fp_X3_41 dX3_rebuild_11 rfl (Nat.le_of_ble_eq_true rfl) (fun _ => ⟨rfl, rfl⟩) ?_
  refine a_aload_n dX3_rebuild_14 rfl ?_
  refine a_aload_n dX3_rebuild_15 rfl ?_
  refine a_aload_n dX3_rebuild_16 rfl ?_
  refine a_ViR [0, 1, 2, 3, 4, 5, 6, 7, 8] k_X3_rebuild_69 (c_X3_countForced (ow := ow) (dr := D.1) (tr := D.2.1) (ch := sCc ow D.1 M) (fo := fo) (nm := fun j => nI (A j)) (wt := fun j => nI (W j)) (up := up) (ld := ld) hM) dX3_rebuild_17 rfl rfl rfl rfl rfl rfl (Nat.le_of_ble_eq_true rfl) ⟨Nat.le_of_ble_eq_true rfl, Nat.le_of_ble_eq_true rfl⟩ ⟨rfl, rfl⟩ ?_
  refine a_put fp_X3_44 dX3_rebuild_20 rfl (Nat.le_of_ble_eq_true rfl) (fun _ => ⟨rfl, rfl⟩) ?_
  refine a_aload_n dX3_rebuild_23 rfl ?_
  refine a_get fl_X3_9 dX3_rebuild_24 rfl rfl ?_
  refine a_astore_n dX3_rebuild_27 (by decide) rfl ?_
  refine a_aload_n dX3_rebuild_28 rfl ?_
  refine a_aload_n dX3_rebuild_29 rfl ?_
  refine a_get fl_X3_15 dX3_rebuild_30 rfl rfl ?_
  refine a_put fp_X3_9 dX3_rebuild_33 rfl (Nat.le_of_ble_eq_true rfl) (fun _ => ⟨rfl, rfl⟩) ?_
  refine a_aload_n dX3_rebuild_36 rfl ?_
  refine a_aload_n dX3_rebuild_37 rfl ?_
  refine a_put fp_X3_15 dX3_rebuild_38 rfl (Nat.le_of_ble_eq_true rfl) (fun _ => ⟨rfl, rfl⟩) ?_
  refine a_sel (L' := [.ref 0, .ref 4, .ref 2]) (st' := []) (h' := aSF M D.1 ow D.2.1 (sCc ow D.1 M) (sCf ow (fun j => nI (A j)) up M) (fun j => nI (A j)) (fun j => nI (W j)) up ld) [0, 2, 1, 3, 4, 5, 6, 7, 8] rfl rfl rfl rfl rfl ?_
  refine a_vret rfl dX3_rebuild_41 (by decide) (by decide) ?_
  exact ⟨rfl, rfl⟩
theorem c_X3_changedWithout (h2 : 2 ≤ M) (hM : M ≤ 61) (lo : Int32) (G : Nat) (hG : fGw (fun j => nI (A j)) (fun j => nI (W j)) up lo = nI G) (hG16 : G ≤ 16) (hA : ∀ j, j < 10 → A j ≤ 9999) (hW : ∀ j, j < 10 → W j ≤ 16) {D : dT} (hD : dDr M A W (fun j => nI (A j)) up lo G dr tr = D) :
    aWr l X mX3_changedWithout rs9 [.ref 0, .ref 4, .int lo] (aSF M ow dr tr ch fo (fun j => nI (A j)) (fun j => nI (W j)) up ld) (some (.int (sCc ow D.1 M))) (aSF M ow D.1 D.2.1 ch fo (fun j => nI (A j)) (fun j => nI (W j)) up ld) := by
  refine aMt.of (by decide) rfl (Nat.le_of_ble_eq_true rfl) ?_
  have hdr := c_X3_draw (l := l) (X := X) (ow := ow) (dr := dr) (tr := tr) (ch := ch) (fo := fo) (ld := ld) h2 hM lo G hG hG16 hA hW
  rw [hD] at hdr
  refine a_aload_n dX3_changedWithout_0 rfl ?_
  refine a_aload_n dX3_changedWithout_1 rfl ?_
  refine a_iload_n dX3_changedWithout_2 rfl ?_
  refine a_VvW [0, 1, 2, 3, 4, 5, 6, 7, 8] (aSF M ow D.1 D.2.1 ch fo (fun j => nI (A j)) (fun j => nI (W j)) up ld) k_X3_changedWithout_61 (hdr) dX3_changedWithout_3 rfl rfl rfl rfl rfl rfl (Nat.le_of_ble_eq_true rfl) ⟨Nat.le_of_ble_eq_true rfl, Nat.le_of_ble_eq_true rfl⟩ ⟨rfl, rfl⟩ (Nat.le_of_ble_eq_true rfl) rfl ?_
  refine a_aload_n dX3_changedWithout_6 rfl ?_
  refine a_ViR [0, 1, 2, 3] k_X3_changedWithout_65 (c_X3_countChanged (ow := ow) (dr := D.1) (tr := D.2.1) (ch := ch) (fo := fo) hM) dX3_changedWithout_7 rfl rfl rfl rfl rfl rfl (Nat.le_of_ble_eq_true rfl) ⟨Nat.le_of_ble_eq_true rfl, Nat.le_of_ble_eq_true rfl⟩ ⟨rfl, rfl⟩ ?_
  refine a_iret rfl dX3_changedWithout_10 (by decide) (by decide) ?_
  exact ⟨rfl, rfl⟩
end RBD
/-- what a snapshot holds: names, weights, ups, loads, pinned keys, their servers, how many -/
abbrev sT : Type := (Nat → Int32) × (Nat → Int32) × (Nat → Int32) × (Nat → Int64) × (Nat → Int32) × (Nat → Int32) × Nat
abbrev aSn (b : Nat) (s : sT) : List aCell := [aOb 4 [.ref (b + 1), .ref (b + 6)], aOb 0 [.ref (b + 2), .ref (b + 3), .ref (b + 4), .ref (b + 5)], aIa 10 s.1, aIa 10 s.2.1, aBa 10 s.2.2.1, aLa 10 s.2.2.2.1, aOb 2 [.ref (b + 7), .ref (b + 8), .int (nI s.2.2.2.2.2.2)], aIa 6 s.2.2.2.2.1, aIa 6 s.2.2.2.2.2.1]
/-- a fleet and pins -/
abbrev aFP (b : Nat) (s : sT) : List aCell := [aOb 0 [.ref (b + 1), .ref (b + 2), .ref (b + 3), .ref (b + 4)], aIa 10 s.1, aIa 10 s.2.1, aBa 10 s.2.2.1, aLa 10 s.2.2.2.1, aOb 2 [.ref (b + 6), .ref (b + 7), .int (nI s.2.2.2.2.2.2)], aIa 6 s.2.2.2.2.1, aIa 6 s.2.2.2.2.2.1]
/-- s over t: what is copied -/
def sCp (s t : sT) : sT := (fFl 10 s.1 t.1, fFl 10 s.2.1 t.2.1, fFl 10 s.2.2.1 t.2.2.1, fFl 10 s.2.2.2.1 t.2.2.2.1, fFl 6 s.2.2.2.2.1 t.2.2.2.2.1, fFl 6 s.2.2.2.2.2.1 t.2.2.2.2.2.1, s.2.2.2.2.2.2)
def sBo (s : sT) : Prop := ∀ j, j < 10 → vp_nar .boolean (s.2.2.1 j) = s.2.2.1 j
abbrev rs17 : List Nat := [0, 1, 2, 3, 4, 5, 6, 7, 8, 9, 10, 11, 12, 13, 14, 15, 16]
def s0T : sT := (fun _ => 0, fun _ => 0, fun _ => 0, fun _ => 0, fun _ => 0, fun _ => 0, 0)
section SNP
variable {l : Launch} {X : aX} {s t : sT}
theorem c_X4_init : aWr l X mX4_init [0] [.ref 0] [aOb 4 [.null, .null]] none (aSn 0 s0T) := by
  refine aMt.of (by decide) rfl (Nat.le_of_ble_eq_true rfl) ?_
  refine a_aload_n dX4_init_0 rfl ?_
  refine a_objInit ml_X4_1 oi_iv oi_cd dX4_init_1 (by decide) (Nat.le_of_ble_eq_true rfl) ?_
  refine a_aload_n dX4_init_4 rfl ?_
  refine a_new (ci := 0) (fs := [.null, .null, .null, .null]) rfl u_X0 tyX0_ok kl_X4_7 ins_X0 ini_X0 dX4_init_5 (fun j hj => by first | (match j, hj with | 0, _ => rfl | 1, _ => rfl | 2, _ => rfl | 3, _ => rfl)) (fun _ => rfl) rfl (by decide) (by decide) ?_
  refine a_dup dX4_init_8 rfl ?_
  refine a_IvW [1] (_) k_X4_init_9 (c_X0_init) dX4_init_9 rfl rfl rfl rfl rfl (Nat.le_of_ble_eq_true rfl) ⟨Nat.le_of_ble_eq_true rfl, Nat.le_of_ble_eq_true rfl⟩ (Nat.le_of_ble_eq_true rfl) rfl ?_
  refine a_putF fp_X4_10 rfl dX4_init_12 rfl (Nat.le_of_ble_eq_true rfl) (fun _ => ⟨rfl, rfl⟩) ?_
  refine a_aload_n dX4_init_15 rfl ?_
  refine a_new (ci := 2) (fs := [.null, .null, .int 0]) rfl u_X2 tyX2_ok kl_X4_16 ins_X2 ini_X2 dX4_init_16 (fun j hj => by first | (match j, hj with | 0, _ => rfl | 1, _ => rfl | 2, _ => rfl)) (fun _ => rfl) rfl (by decide) (by decide) ?_
  refine a_dup dX4_init_19 rfl ?_
  refine a_IvW [6] (_) k_X4_init_18 (c_X2_init) dX4_init_20 rfl rfl rfl rfl rfl (Nat.le_of_ble_eq_true rfl) ⟨Nat.le_of_ble_eq_true rfl, Nat.le_of_ble_eq_true rfl⟩ (Nat.le_of_ble_eq_true rfl) rfl ?_
  refine a_putF fp_X4_19 rfl dX4_init_23 rfl (Nat.le_of_ble_eq_true rfl) (fun _ => ⟨rfl, rfl⟩) ?_
  refine a_vret rfl dX4_init_26 (by decide) (by decide) ?_
  exact ⟨rfl, rfl⟩
theorem c_X4_take (hz : sBo t) : aWr l X mX4_take rs17 [.ref 0, .ref 9, .ref 14] (aSn 0 s ++ aFP 9 t) none (aSn 0 (sCp t s) ++ aFP 9 t) := by
  refine aMt.of (by decide) rfl (Nat.le_of_ble_eq_true rfl) ?_
  refine a_aload_n dX4_take_0 rfl ?_
  refine a_get fl_X4_10 dX4_take_1 rfl rfl ?_
  refine a_aload_n dX4_take_4 rfl ?_
  refine a_VvW [1, 2, 3, 4, 5, 9, 10, 11, 12, 13] (_) k_X4_take_23 (c_X0_copyFrom (nm := s.1) (wt := s.2.1) (up := s.2.2.1) (ld := s.2.2.2.1) hz) dX4_take_5 rfl rfl rfl rfl rfl rfl (Nat.le_of_ble_eq_true rfl) ⟨Nat.le_of_ble_eq_true rfl, Nat.le_of_ble_eq_true rfl⟩ ⟨rfl, rfl⟩ (Nat.le_of_ble_eq_true rfl) rfl ?_
  refine a_aload_n dX4_take_8 rfl ?_
  refine a_get fl_X4_19 dX4_take_9 rfl rfl ?_
  refine a_aload_n dX4_take_12 rfl ?_
  refine a_VvW [6, 7, 8, 14, 15, 16] (_) k_X4_take_27 (c_X2_copyFrom (pk := s.2.2.2.2.1) (ps := s.2.2.2.2.2.1) (m := s.2.2.2.2.2.2) (pk2 := t.2.2.2.2.1) (ps2 := t.2.2.2.2.2.1) (m2 := t.2.2.2.2.2.2)) dX4_take_13 rfl rfl rfl rfl rfl rfl (Nat.le_of_ble_eq_true rfl) ⟨Nat.le_of_ble_eq_true rfl, Nat.le_of_ble_eq_true rfl⟩ ⟨rfl, rfl⟩ (Nat.le_of_ble_eq_true rfl) rfl ?_
  refine a_vret rfl dX4_take_16 (by decide) (by decide) ?_
  exact ⟨rfl, rfl⟩
theorem c_X4_give (hz : sBo s) : aWr l X mX4_give rs17 [.ref 0, .ref 9, .ref 14] (aSn 0 s ++ aFP 9 t) none (aSn 0 s ++ aFP 9 (sCp s t)) := by
  refine aMt.of (by decide) rfl (Nat.le_of_ble_eq_true rfl) ?_
  refine a_aload_n dX4_give_0 rfl ?_
  refine a_aload_n dX4_give_1 rfl ?_
  refine a_get fl_X4_10 dX4_give_2 rfl rfl ?_
  refine a_VvW [9, 10, 11, 12, 13, 1, 2, 3, 4, 5] (_) k_X4_give_23 (c_X0_copyFrom (nm := t.1) (wt := t.2.1) (up := t.2.2.1) (ld := t.2.2.2.1) hz) dX4_give_5 rfl rfl rfl rfl rfl rfl (Nat.le_of_ble_eq_true rfl) ⟨Nat.le_of_ble_eq_true rfl, Nat.le_of_ble_eq_true rfl⟩ ⟨rfl, rfl⟩ (Nat.le_of_ble_eq_true rfl) rfl ?_
  refine a_aload_n dX4_give_8 rfl ?_
  refine a_aload_n dX4_give_9 rfl ?_
  refine a_get fl_X4_19 dX4_give_10 rfl rfl ?_
  refine a_VvW [14, 15, 16, 6, 7, 8] (_) k_X4_give_27 (c_X2_copyFrom (pk := t.2.2.2.2.1) (ps := t.2.2.2.2.2.1) (m := t.2.2.2.2.2.2) (pk2 := s.2.2.2.2.1) (ps2 := s.2.2.2.2.2.1) (m2 := s.2.2.2.2.2.2)) dX4_give_13 rfl rfl rfl rfl rfl rfl (Nat.le_of_ble_eq_true rfl) ⟨Nat.le_of_ble_eq_true rfl, Nat.le_of_ble_eq_true rfl⟩ ⟨rfl, rfl⟩ (Nat.le_of_ble_eq_true rfl) rfl ?_
  refine a_vret rfl dX4_give_16 (by decide) (by decide) ?_
  exact ⟨rfl, rfl⟩
end SNP
end
section
/-! written by wip/whole/pp.py out of wip/whole/src/21.hist2.lean -/
theorem dX1_init_0 : decode cX1_init 0 = .ok (.aload_n 0, 1) := by decide +kernel
theorem dX1_init_1 : decode cX1_init 1 = .ok (.invokespecial 3, 3) := by decide +kernel
theorem dX1_init_4 : decode cX1_init 4 = .ok (.aload_n 0, 1) := by decide +kernel
theorem dX1_init_5 : decode cX1_init 5 = .ok (.iconst 4, 1) := by decide +kernel
theorem dX1_init_6 : decode cX1_init 6 = .ok (.anewarray 9, 3) := by decide +kernel
theorem dX1_init_9 : decode cX1_init 9 = .ok (.putfield 11, 3) := by decide +kernel
theorem dX1_init_12 : decode cX1_init 12 = .ok (.aload_n 0, 1) := by decide +kernel
theorem dX1_init_13 : decode cX1_init 13 = .ok (.iconst 0, 1) := by decide +kernel
theorem dX1_init_14 : decode cX1_init 14 = .ok (.putfield 17, 3) := by decide +kernel
theorem dX1_init_17 : decode cX1_init 17 = .ok (.iconst 0, 1) := by decide +kernel
theorem dX1_init_18 : decode cX1_init 18 = .ok (.istore_n 1, 1) := by decide +kernel
theorem dX1_init_19 : decode cX1_init 19 = .ok (.iload_n 1, 1) := by decide +kernel
theorem dX1_init_20 : decode cX1_init 20 = .ok (.iconst 4, 1) := by decide +kernel
theorem dX1_init_21 : decode cX1_init 21 = .ok (.if_icmp .ge 22, 3) := by decide +kernel
theorem dX1_init_24 : decode cX1_init 24 = .ok (.aload_n 0, 1) := by decide +kernel
theorem dX1_init_25 : decode cX1_init 25 = .ok (.getfield 11, 3) := by decide +kernel
theorem dX1_init_28 : decode cX1_init 28 = .ok (.iload_n 1, 1) := by decide +kernel
theorem dX1_init_29 : decode cX1_init 29 = .ok (.new 9, 3) := by decide +kernel
theorem dX1_init_32 : decode cX1_init 32 = .ok (.dup, 1) := by decide +kernel
theorem dX1_init_33 : decode cX1_init 33 = .ok (.invokespecial 21, 3) := by decide +kernel
theorem dX1_init_36 : decode cX1_init 36 = .ok (.aastore, 1) := by decide +kernel
theorem dX1_init_37 : decode cX1_init 37 = .ok (.iinc 1 1, 3) := by decide +kernel
theorem dX1_init_40 : decode cX1_init 40 = .ok (.goto (-21), 3) := by decide +kernel
theorem dX1_init_43 : decode cX1_init 43 = .ok (.return_, 1) := by decide +kernel
theorem dX1_clear_0 : decode cX1_clear 0 = .ok (.aload_n 0, 1) := by decide +kernel
theorem dX1_clear_1 : decode cX1_clear 1 = .ok (.iconst 0, 1) := by decide +kernel
theorem dX1_clear_2 : decode cX1_clear 2 = .ok (.putfield 17, 3) := by decide +kernel
theorem dX1_clear_5 : decode cX1_clear 5 = .ok (.return_, 1) := by decide +kernel
theorem dX1_size_0 : decode cX1_size 0 = .ok (.aload_n 0, 1) := by decide +kernel
theorem dX1_size_1 : decode cX1_size 1 = .ok (.getfield 17, 3) := by decide +kernel
theorem dX1_size_4 : decode cX1_size 4 = .ok (.ireturn, 1) := by decide +kernel
theorem dX1_remember_0 : decode cX1_remember 0 = .ok (.aload_n 0, 1) := by decide +kernel
theorem dX1_remember_1 : decode cX1_remember 1 = .ok (.getfield 11, 3) := by decide +kernel
theorem dX1_remember_4 : decode cX1_remember 4 = .ok (.iconst 3, 1) := by decide +kernel
theorem dX1_remember_5 : decode cX1_remember 5 = .ok (.aaload, 1) := by decide +kernel
theorem dX1_remember_6 : decode cX1_remember 6 = .ok (.astore_n 3, 1) := by decide +kernel
theorem dX1_remember_7 : decode cX1_remember 7 = .ok (.iconst 3, 1) := by decide +kernel
theorem dX1_remember_8 : decode cX1_remember 8 = .ok (.istore 4, 2) := by decide +kernel
theorem dX1_remember_10 : decode cX1_remember 10 = .ok (.iload 4, 2) := by decide +kernel
theorem dX1_remember_12 : decode cX1_remember 12 = .ok (.ifCond .le 25, 3) := by decide +kernel
theorem dX1_remember_15 : decode cX1_remember 15 = .ok (.aload_n 0, 1) := by decide +kernel
theorem dX1_remember_16 : decode cX1_remember 16 = .ok (.getfield 11, 3) := by decide +kernel
theorem dX1_remember_19 : decode cX1_remember 19 = .ok (.iload 4, 2) := by decide +kernel
theorem dX1_remember_21 : decode cX1_remember 21 = .ok (.aload_n 0, 1) := by decide +kernel
theorem dX1_remember_22 : decode cX1_remember 22 = .ok (.getfield 11, 3) := by decide +kernel
theorem dX1_remember_25 : decode cX1_remember 25 = .ok (.iload 4, 2) := by decide +kernel
theorem dX1_remember_27 : decode cX1_remember 27 = .ok (.iconst 1, 1) := by decide +kernel
theorem dX1_remember_28 : decode cX1_remember 28 = .ok (.isub, 1) := by decide +kernel
theorem dX1_remember_29 : decode cX1_remember 29 = .ok (.aaload, 1) := by decide +kernel
theorem dX1_remember_30 : decode cX1_remember 30 = .ok (.aastore, 1) := by decide +kernel
theorem dX1_remember_31 : decode cX1_remember 31 = .ok (.iinc 4 (-1), 3) := by decide +kernel
theorem dX1_remember_34 : decode cX1_remember 34 = .ok (.goto (-24), 3) := by decide +kernel
theorem dX1_remember_37 : decode cX1_remember 37 = .ok (.aload_n 0, 1) := by decide +kernel
theorem dX1_remember_38 : decode cX1_remember 38 = .ok (.getfield 11, 3) := by decide +kernel
theorem dX1_remember_41 : decode cX1_remember 41 = .ok (.iconst 0, 1) := by decide +kernel
theorem dX1_remember_42 : decode cX1_remember 42 = .ok (.aload_n 3, 1) := by decide +kernel
theorem dX1_remember_43 : decode cX1_remember 43 = .ok (.aastore, 1) := by decide +kernel
theorem dX1_remember_44 : decode cX1_remember 44 = .ok (.aload_n 3, 1) := by decide +kernel
theorem dX1_remember_45 : decode cX1_remember 45 = .ok (.ifnull 9, 3) := by decide +kernel
theorem dX1_remember_48 : decode cX1_remember 48 = .ok (.aload_n 3, 1) := by decide +kernel
theorem dX1_remember_49 : decode cX1_remember 49 = .ok (.aload_n 1, 1) := by decide +kernel
theorem dX1_remember_50 : decode cX1_remember 50 = .ok (.aload_n 2, 1) := by decide +kernel
theorem dX1_remember_51 : decode cX1_remember 51 = .ok (.invokevirtual 22, 3) := by decide +kernel
theorem dX1_remember_54 : decode cX1_remember 54 = .ok (.aload_n 0, 1) := by decide +kernel
theorem dX1_remember_55 : decode cX1_remember 55 = .ok (.aload_n 0, 1) := by decide +kernel
theorem dX1_remember_56 : decode cX1_remember 56 = .ok (.getfield 17, 3) := by decide +kernel
theorem dX1_remember_59 : decode cX1_remember 59 = .ok (.iconst 1, 1) := by decide +kernel
theorem dX1_remember_60 : decode cX1_remember 60 = .ok (.iadd, 1) := by decide +kernel
theorem dX1_remember_61 : decode cX1_remember 61 = .ok (.iconst 4, 1) := by decide +kernel
theorem dX1_remember_62 : decode cX1_remember 62 = .ok (.invokestatic 26, 3) := by decide +kernel
theorem dX1_remember_65 : decode cX1_remember 65 = .ok (.putfield 17, 3) := by decide +kernel
theorem dX1_remember_68 : decode cX1_remember 68 = .ok (.return_, 1) := by decide +kernel
theorem dX1_bringBack_0 : decode cX1_bringBack 0 = .ok (.aload_n 0, 1) := by decide +kernel
theorem dX1_bringBack_1 : decode cX1_bringBack 1 = .ok (.getfield 11, 3) := by decide +kernel
theorem dX1_bringBack_4 : decode cX1_bringBack 4 = .ok (.iconst 0, 1) := by decide +kernel
theorem dX1_bringBack_5 : decode cX1_bringBack 5 = .ok (.aaload, 1) := by decide +kernel
theorem dX1_bringBack_6 : decode cX1_bringBack 6 = .ok (.astore_n 3, 1) := by decide +kernel
theorem dX1_bringBack_7 : decode cX1_bringBack 7 = .ok (.aload_n 3, 1) := by decide +kernel
theorem dX1_bringBack_8 : decode cX1_bringBack 8 = .ok (.ifnull 9, 3) := by decide +kernel
theorem dX1_bringBack_11 : decode cX1_bringBack 11 = .ok (.aload_n 3, 1) := by decide +kernel
theorem dX1_bringBack_12 : decode cX1_bringBack 12 = .ok (.aload_n 1, 1) := by decide +kernel
theorem dX1_bringBack_13 : decode cX1_bringBack 13 = .ok (.aload_n 2, 1) := by decide +kernel
theorem dX1_bringBack_14 : decode cX1_bringBack 14 = .ok (.invokevirtual 32, 3) := by decide +kernel
theorem dX1_bringBack_17 : decode cX1_bringBack 17 = .ok (.iconst 1, 1) := by decide +kernel
theorem dX1_bringBack_18 : decode cX1_bringBack 18 = .ok (.istore 4, 2) := by decide +kernel
theorem dX1_bringBack_20 : decode cX1_bringBack 20 = .ok (.iload 4, 2) := by decide +kernel
theorem dX1_bringBack_22 : decode cX1_bringBack 22 = .ok (.iconst 4, 1) := by decide +kernel
theorem dX1_bringBack_23 : decode cX1_bringBack 23 = .ok (.if_icmp .ge 25, 3) := by decide +kernel
theorem dX1_bringBack_26 : decode cX1_bringBack 26 = .ok (.aload_n 0, 1) := by decide +kernel
theorem dX1_bringBack_27 : decode cX1_bringBack 27 = .ok (.getfield 11, 3) := by decide +kernel
theorem dX1_bringBack_30 : decode cX1_bringBack 30 = .ok (.iload 4, 2) := by decide +kernel
theorem dX1_bringBack_32 : decode cX1_bringBack 32 = .ok (.iconst 1, 1) := by decide +kernel
theorem dX1_bringBack_33 : decode cX1_bringBack 33 = .ok (.isub, 1) := by decide +kernel
theorem dX1_bringBack_34 : decode cX1_bringBack 34 = .ok (.aload_n 0, 1) := by decide +kernel
theorem dX1_bringBack_35 : decode cX1_bringBack 35 = .ok (.getfield 11, 3) := by decide +kernel
theorem dX1_bringBack_38 : decode cX1_bringBack 38 = .ok (.iload 4, 2) := by decide +kernel
theorem dX1_bringBack_40 : decode cX1_bringBack 40 = .ok (.aaload, 1) := by decide +kernel
theorem dX1_bringBack_41 : decode cX1_bringBack 41 = .ok (.aastore, 1) := by decide +kernel
theorem dX1_bringBack_42 : decode cX1_bringBack 42 = .ok (.iinc 4 1, 3) := by decide +kernel
theorem dX1_bringBack_45 : decode cX1_bringBack 45 = .ok (.goto (-25), 3) := by decide +kernel
theorem dX1_bringBack_48 : decode cX1_bringBack 48 = .ok (.aload_n 0, 1) := by decide +kernel
theorem dX1_bringBack_49 : decode cX1_bringBack 49 = .ok (.getfield 11, 3) := by decide +kernel
theorem dX1_bringBack_52 : decode cX1_bringBack 52 = .ok (.iconst 3, 1) := by decide +kernel
theorem dX1_bringBack_53 : decode cX1_bringBack 53 = .ok (.aload_n 3, 1) := by decide +kernel
theorem dX1_bringBack_54 : decode cX1_bringBack 54 = .ok (.aastore, 1) := by decide +kernel
theorem dX1_bringBack_55 : decode cX1_bringBack 55 = .ok (.aload_n 0, 1) := by decide +kernel
theorem dX1_bringBack_56 : decode cX1_bringBack 56 = .ok (.aload_n 0, 1) := by decide +kernel
theorem dX1_bringBack_57 : decode cX1_bringBack 57 = .ok (.getfield 17, 3) := by decide +kernel
theorem dX1_bringBack_60 : decode cX1_bringBack 60 = .ok (.iconst 1, 1) := by decide +kernel
theorem dX1_bringBack_61 : decode cX1_bringBack 61 = .ok (.isub, 1) := by decide +kernel
theorem dX1_bringBack_62 : decode cX1_bringBack 62 = .ok (.iconst 0, 1) := by decide +kernel
theorem dX1_bringBack_63 : decode cX1_bringBack 63 = .ok (.invokestatic 35, 3) := by decide +kernel
theorem dX1_bringBack_66 : decode cX1_bringBack 66 = .ok (.putfield 17, 3) := by decide +kernel
theorem dX1_bringBack_69 : decode cX1_bringBack 69 = .ok (.return_, 1) := by decide +kernel
theorem k_X1_init_21 : aKI mX1_init mX4_init 21 0 := ⟨cb_X4_init, rfl, rfl, (Or.inr ⟨_, mn_X1_21⟩), iv_X4_init, rfl, ⟨Nat.le_of_ble_eq_true rfl, Nat.le_of_ble_eq_true rfl⟩⟩
theorem k_X1_remember_22 : aKV mX1_remember mX4_take 22 2 4 := ⟨cb_X4_take, rfl, ml_X1_22, iv_X4_take, sl_X4_take, ⟨_, _, rfl⟩, ⟨Nat.le_of_ble_eq_true rfl, Nat.le_of_ble_eq_true rfl⟩⟩
theorem k_X1_bringBack_32 : aKV mX1_bringBack mX4_give 32 2 4 := ⟨cb_X4_give, rfl, ml_X1_32, iv_X4_give, sl_X4_give, ⟨_, _, rfl⟩, ⟨Nat.le_of_ble_eq_true rfl, Nat.le_of_ble_eq_true rfl⟩⟩
/-! ===== History ===== -/
abbrev aHi (b z : Nat) (s0 s1 s2 s3 : sT) : List aCell := [aOb 1 [.ref (b + 1), .int (nI z)], aRa [some (b + 2), some (b + 11), some (b + 20), some (b + 29)]] ++ (aSn (b + 2) s0 ++ (aSn (b + 11) s1 ++ (aSn (b + 20) s2 ++ aSn (b + 29) s3)))
abbrev rsH : List Nat := [0, 1, 38, 39, 40, 41, 42, 43, 44, 45]
section HST
variable {l : Launch} {X : aX} {z : Nat} {s0 s1 s2 s3 t : sT}
set_option maxRecDepth 20000 in
theorem c_X1_clear : aWr l X mX1_clear [0, 1] [.ref 0] (aHi 0 z s0 s1 s2 s3) none (aHi 0 0 s0 s1 s2 s3) := by
  refine aMt.of (by decide) rfl (Nat.le_of_ble_eq_true rfl) ?_
  refine a_aload_n dX1_clear_0 rfl ?_
  refine a_iconst 0 dX1_clear_1 (by decide) ?_
  refine a_put fp_X1_17 dX1_clear_2 rfl (Nat.le_of_ble_eq_true rfl) (fun _ => ⟨rfl, rfl⟩) ?_
  refine a_vret rfl dX1_clear_5 (by decide) (by decide) ?_
  exact ⟨rfl, rfl⟩
theorem c_X1_size : aRd l X mX1_size [0, 1] [.ref 0] (aHi 0 z s0 s1 s2 s3) (.int (nI z)) := by
  refine aMt.of (by decide) rfl (Nat.le_of_ble_eq_true rfl) ?_
  refine a_aload_n dX1_size_0 rfl ?_
  refine a_get fl_X1_17 dX1_size_1 rfl rfl ?_
  refine a_iret rfl dX1_size_4 (by decide) (by decide) ?_
  exact ⟨rfl, rfl⟩
set_option maxRecDepth 20000 in
theorem c_X1_init : aWr l X mX1_init [0] [.ref 0] [aOb 1 [.null, .int 0]] none (aHi 0 0 s0T s0T s0T s0T) := by
  refine aMt.of (by decide) rfl (Nat.le_of_ble_eq_true rfl) ?_
  refine a_aload_n dX1_init_0 rfl ?_
  refine a_objInit ml_X1_3 oi_iv oi_cd dX1_init_1 (by decide) (Nat.le_of_ble_eq_true rfl) ?_
  refine a_aload_n dX1_init_4 rfl ?_
  refine a_iconst 4 dX1_init_5 (by decide) ?_
  refine a_newr 4 kl_X1_9 (by decide) (by decide) (by decide) dX1_init_6 rfl (by decide) (by decide) ?_
  refine a_putF fp_X1_11 rfl dX1_init_9 rfl (Nat.le_of_ble_eq_true rfl) (fun _ => ⟨rfl, rfl⟩) ?_
  refine a_aload_n dX1_init_12 rfl ?_
  refine a_iconst 0 dX1_init_13 (by decide) ?_
  refine a_put fp_X1_17 dX1_init_14 rfl (Nat.le_of_ble_eq_true rfl) (fun _ => ⟨rfl, rfl⟩) ?_
  refine a_iconst 0 dX1_init_17 (by decide) ?_
  refine a_istore_n dX1_init_18 (by decide) rfl ?_
  refine a_iload_n dX1_init_19 rfl ?_
  refine a_iconst 4 dX1_init_20 (by decide) ?_
  refine a_icmp_ge 43 dX1_init_21 (by decide) (fun z => absurd z (by decide)) (fun _ => ?_)
  refine a_aload_n dX1_init_24 rfl ?_
  refine a_get fl_X1_11 dX1_init_25 rfl rfl ?_
  refine a_iload_n dX1_init_28 rfl ?_
  refine a_new (ci := 4) (fs := [.null, .null]) rfl u_X4 tyX4_ok kl_X1_9 ins_X4 ini_X4 dX1_init_29 (fun j hj => by first | (match j, hj with | 0, _ => rfl | 1, _ => rfl)) (fun _ => rfl) rfl (by decide) (by decide) ?_
  refine a_dup dX1_init_32 rfl ?_
  refine a_IvW [2] (_) k_X1_init_21 (c_X4_init) dX1_init_33 rfl rfl rfl rfl rfl (Nat.le_of_ble_eq_true rfl) ⟨Nat.le_of_ble_eq_true rfl, Nat.le_of_ble_eq_true rfl⟩ (Nat.le_of_ble_eq_true rfl) rfl ?_
  refine a_aast (j := 0) dX1_init_36 rfl rfl (vpD (by decide)) (by decide) ?_
  refine a_iinc 1 dX1_init_37 rfl (by decide) (by decide) rfl ?_
  refine a_goto 19 dX1_init_40 (by decide) ?_
  refine a_iload_n dX1_init_19 rfl ?_
  refine a_iconst 4 dX1_init_20 (by decide) ?_
  refine a_icmp_ge 43 dX1_init_21 (by decide) (fun z => absurd z (by decide)) (fun _ => ?_)
  refine a_aload_n dX1_init_24 rfl ?_
  refine a_get fl_X1_11 dX1_init_25 rfl rfl ?_
  refine a_iload_n dX1_init_28 rfl ?_
  refine a_new (ci := 4) (fs := [.null, .null]) rfl u_X4 tyX4_ok kl_X1_9 ins_X4 ini_X4 dX1_init_29 (fun j hj => by first | (match j, hj with | 0, _ => rfl | 1, _ => rfl)) (fun _ => rfl) rfl (by decide) (by decide) ?_
  refine a_dup dX1_init_32 rfl ?_
  refine a_IvW [11] (_) k_X1_init_21 (c_X4_init) dX1_init_33 rfl rfl rfl rfl rfl (Nat.le_of_ble_eq_true rfl) ⟨Nat.le_of_ble_eq_true rfl, Nat.le_of_ble_eq_true rfl⟩ (Nat.le_of_ble_eq_true rfl) rfl ?_
  refine a_aast (j := 1) dX1_init_36 rfl rfl (vpD (by decide)) (by decide) ?_
  refine a_iinc 2 dX1_init_37 rfl (by decide) (by decide) rfl ?_
  refine a_goto 19 dX1_init_40 (by decide) ?_
  refine a_iload_n dX1_init_19 rfl ?_
  refine a_iconst 4 dX1_init_20 (by decide) ?_
  refine a_icmp_ge 43 dX1_init_21 (by decide) (fun z => absurd z (by decide)) (fun _ => ?_)
  refine a_aload_n dX1_init_24 rfl ?_
  refine a_get fl_X1_11 dX1_init_25 rfl rfl ?_
  refine a_iload_n dX1_init_28 rfl ?_
  refine a_new (ci := 4) (fs := [.null, .null]) rfl u_X4 tyX4_ok kl_X1_9 ins_X4 ini_X4 dX1_init_29 (fun j hj => by first | (match j, hj with | 0, _ => rfl | 1, _ => rfl)) (fun _ => rfl) rfl (by decide) (by decide) ?_
  refine a_dup dX1_init_32 rfl ?_
  refine a_IvW [20] (_) k_X1_init_21 (c_X4_init) dX1_init_33 rfl rfl rfl rfl rfl (Nat.le_of_ble_eq_true rfl) ⟨Nat.le_of_ble_eq_true rfl, Nat.le_of_ble_eq_true rfl⟩ (Nat.le_of_ble_eq_true rfl) rfl ?_
  refine a_aast (j := 2) dX1_init_36 rfl rfl (vpD (by decide)) (by decide) ?_
  refine a_iinc 3 dX1_init_37 rfl (by decide) (by decide) rfl ?_
  refine a_goto 19 dX1_init_40 (by decide) ?_
  refine a_iload_n dX1_init_19 rfl ?_
  refine a_iconst 4 dX1_init_20 (by decide) ?_
  refine a_icmp_ge 43 dX1_init_21 (by decide) (fun z => absurd z (by decide)) (fun _ => ?_)
  refine a_aload_n dX1_init_24 rfl ?_
  refine a_get fl_X1_11 dX1_init_25 rfl rfl ?_
  refine a_iload_n dX1_init_28 rfl ?_
  refine a_new (ci := 4) (fs := [.null, .null]) rfl u_X4 tyX4_ok kl_X1_9 ins_X4 ini_X4 dX1_init_29 (fun j hj => by first | (match j, hj with | 0, _ => rfl | 1, _ => rfl)) (fun _ => rfl) rfl (by decide) (by decide) ?_
  refine a_dup dX1_init_32 rfl ?_
  refine a_IvW [29] (_) k_X1_init_21 (c_X4_init) dX1_init_33 rfl rfl rfl rfl rfl (Nat.le_of_ble_eq_true rfl) ⟨Nat.le_of_ble_eq_true rfl, Nat.le_of_ble_eq_true rfl⟩ (Nat.le_of_ble_eq_true rfl) rfl ?_
  refine a_aast (j := 3) dX1_init_36 rfl rfl (vpD (by decide)) (by decide) ?_
  refine a_iinc 4 dX1_init_37 rfl (by decide) (by decide) rfl ?_
  refine a_goto 19 dX1_init_40 (by decide) ?_
  refine a_iload_n dX1_init_19 rfl ?_
  refine a_iconst 4 dX1_init_20 (by decide) ?_
  refine a_icmp_ge 43 dX1_init_21 (by decide) (fun _ => ?_) (fun z => absurd (by decide) z)
  refine a_vret rfl dX1_init_43 (by decide) (by decide) ?_
  exact ⟨rfl, rfl⟩
set_option maxRecDepth 20000 in
theorem c_X1_remember (hz4 : z ≤ 4) (hz : sBo t) : aWr l X mX1_remember rsH [.ref 0, .ref 38, .ref 43] (aHi 0 z s0 s1 s2 s3 ++ aFP 38 t) none (aHi 0 (if z < 4 then z + 1 else 4) (sCp t s3) s0 s1 s2 ++ aFP 38 t) := by
  refine aMt.of (by decide) rfl (Nat.le_of_ble_eq_true rfl) ?_
  refine a_aload_n dX1_remember_0 rfl ?_
  refine a_get fl_X1_11 dX1_remember_1 rfl rfl ?_
  refine a_iconst 3 dX1_remember_4 (by decide) ?_
  refine a_aald (j := 3) dX1_remember_5 rfl (vpD (by decide)) (by decide) rfl ?_
  refine a_astore_n dX1_remember_6 (by decide) rfl ?_
  refine a_iconst 3 dX1_remember_7 (by decide) ?_
  refine a_istore dX1_remember_8 (by decide) rfl ?_
  refine a_iload dX1_remember_10 rfl ?_
  refine a_if_le 37 dX1_remember_12 (by decide) (fun z => absurd z (by decide)) (fun _ => ?_)
  refine a_aload_n dX1_remember_15 rfl ?_
  refine a_get fl_X1_11 dX1_remember_16 rfl rfl ?_
  refine a_iload dX1_remember_19 rfl ?_
  refine a_aload_n dX1_remember_21 rfl ?_
  refine a_get fl_X1_11 dX1_remember_22 rfl rfl ?_
  refine a_iload dX1_remember_25 rfl ?_
  refine a_iconst 1 dX1_remember_27 (by decide) ?_
  refine a_isub dX1_remember_28 ?_
  refine a_aald (j := 2) dX1_remember_29 rfl (vpD (by decide)) (by decide) rfl ?_
  refine a_aast (j := 3) dX1_remember_30 rfl rfl (vpD (by decide)) (by decide) ?_
  refine a_iinc 2 dX1_remember_31 rfl (by decide) (by decide) rfl ?_
  refine a_goto 10 dX1_remember_34 (by decide) ?_
  refine a_iload dX1_remember_10 rfl ?_
  refine a_if_le 37 dX1_remember_12 (by decide) (fun z => absurd z (by decide)) (fun _ => ?_)
  refine a_aload_n dX1_remember_15 rfl ?_
  refine a_get fl_X1_11 dX1_remember_16 rfl rfl ?_
  refine a_iload dX1_remember_19 rfl ?_
  refine a_aload_n dX1_remember_21 rfl ?_
  refine a_get fl_X1_11 dX1_remember_22 rfl rfl ?_
  refine a_iload dX1_remember_25 rfl ?_
  refine a_iconst 1 dX1_remember_27 (by decide) ?_
  refine a_isub dX1_remember_28 ?_
  refine a_aald (j := 1) dX1_remember_29 rfl (vpD (by decide)) (by decide) rfl ?_
  refine a_aast (j := 2) dX1_remember_30 rfl rfl (vpD (by decide)) (by decide) ?_
  refine a_iinc 1 dX1_remember_31 rfl (by decide) (by decide) rfl ?_
  refine a_goto 10 dX1_remember_34 (by decide) ?_
  refine a_iload dX1_remember_10 rfl ?_
  refine a_if_le 37 dX1_remember_12 (by decide) (fun z => absurd z (by decide)) (fun _ => ?_)
  refine a_aload_n dX1_remember_15 rfl ?_
  refine a_get fl_X1_11 dX1_remember_16 rfl rfl ?_
  refine a_iload dX1_remember_19 rfl ?_
  refine a_aload_n dX1_remember_21 rfl ?_
  refine a_get fl_X1_11 dX1_remember_22 rfl rfl ?_
  refine a_iload dX1_remember_25 rfl ?_
  refine a_iconst 1 dX1_remember_27 (by decide) ?_
  refine a_isub dX1_remember_28 ?_
  refine a_aald (j := 0) dX1_remember_29 rfl (vpD (by decide)) (by decide) rfl ?_
  refine a_aast (j := 1) dX1_remember_30 rfl rfl (vpD (by decide)) (by decide) ?_
  refine a_iinc 0 dX1_remember_31 rfl (by decide) (by decide) rfl ?_
  refine a_goto 10 dX1_remember_34 (by decide) ?_
  refine a_iload dX1_remember_10 rfl ?_
  refine a_if_le 37 dX1_remember_12 (by decide) (fun _ => ?_) (fun z => absurd (by decide) z)
  refine a_aload_n dX1_remember_37 rfl ?_
  refine a_get fl_X1_11 dX1_remember_38 rfl rfl ?_
  refine a_iconst 0 dX1_remember_41 (by decide) ?_
  refine a_aload_n dX1_remember_42 rfl ?_
  refine a_aast (j := 0) dX1_remember_43 rfl rfl (vpD (by decide)) (by decide) ?_
  refine a_aload_n dX1_remember_44 rfl ?_
  refine a_ifnull dX1_remember_45 ?_
  refine a_aload_n dX1_remember_48 rfl ?_
  refine a_aload_n dX1_remember_49 rfl ?_
  refine a_aload_n dX1_remember_50 rfl ?_
  refine a_VvW [29, 30, 31, 32, 33, 34, 35, 36, 37, 38, 39, 40, 41, 42, 43, 44, 45] (_) k_X1_remember_22 (c_X4_take (s := s3) (t := t) hz) dX1_remember_51 rfl rfl rfl rfl rfl rfl (Nat.le_of_ble_eq_true rfl) ⟨Nat.le_of_ble_eq_true rfl, Nat.le_of_ble_eq_true rfl⟩ ⟨rfl, rfl⟩ (Nat.le_of_ble_eq_true rfl) rfl ?_
  refine a_aload_n dX1_remember_54 rfl ?_
  refine a_aload_n dX1_remember_55 rfl ?_
  refine a_get fl_X1_17 dX1_remember_56 rfl rfl ?_
  refine a_iconst 1 dX1_remember_59 (by decide) ?_
  refine a_iadd dX1_remember_60 ?_
  refine a_iconst 4 dX1_remember_61 (by decide) ?_
  refine a_min mm_X1_26 mt_min_st ini_J9 mt_min_cd dX1_remember_62 (by decide) (Nat.le_of_ble_eq_true rfl) (by decide) (by decide) ?_
  have hmin : (if (4 : Int32) < nI z + 1 then (4 : Int32) else nI z + 1) = nI (if z < 4 then z + 1 else 4) := by
    rw [nI_1]
    rcases Nat.lt_or_ge z 4 with q | q
    · rw [if_neg (show ¬ (4 : Int32) < nI (z + 1) from nI_nlt (b := z + 1) (a := 4) (by omega) (by decide)), if_pos q]
    · obtain rfl : z = 4 := by omega
      decide
  rw [hmin]
  refine a_put fp_X1_17 dX1_remember_65 rfl (Nat.le_of_ble_eq_true rfl) (fun _ => ⟨rfl, rfl⟩) ?_
  refine a_sel (L' := [.ref 0, .ref 38, .ref 43, .ref 2, .int 0]) (st' := []) (h' := aHi 0 (if z < 4 then z + 1 else 4) (sCp t s3) s0 s1 s2 ++ aFP 38 t) [0, 1, 29, 30, 31, 32, 33, 34, 35, 36, 37, 2, 3, 4, 5, 6, 7, 8, 9, 10, 11, 12, 13, 14, 15, 16, 17, 18, 19, 20, 21, 22, 23, 24, 25, 26, 27, 28, 38, 39, 40, 41, 42, 43, 44, 45] rfl rfl rfl rfl rfl ?_
  refine a_vret rfl dX1_remember_68 (by decide) (by decide) ?_
  exact ⟨rfl, rfl⟩
set_option maxRecDepth 20000 in
theorem c_X1_bringBack (h0 : 0 < z) (hz4 : z ≤ 4) (hz : sBo s0) : aWr l X mX1_bringBack rsH [.ref 0, .ref 38, .ref 43] (aHi 0 z s0 s1 s2 s3 ++ aFP 38 t) none (aHi 0 (z - 1) s1 s2 s3 s0 ++ aFP 38 (sCp s0 t)) := by
  refine aMt.of (by decide) rfl (Nat.le_of_ble_eq_true rfl) ?_
  refine a_aload_n dX1_bringBack_0 rfl ?_
  refine a_get fl_X1_11 dX1_bringBack_1 rfl rfl ?_
  refine a_iconst 0 dX1_bringBack_4 (by decide) ?_
  refine a_aald (j := 0) dX1_bringBack_5 rfl (vpD (by decide)) (by decide) rfl ?_
  refine a_astore_n dX1_bringBack_6 (by decide) rfl ?_
  refine a_aload_n dX1_bringBack_7 rfl ?_
  refine a_ifnull dX1_bringBack_8 ?_
  refine a_aload_n dX1_bringBack_11 rfl ?_
  refine a_aload_n dX1_bringBack_12 rfl ?_
  refine a_aload_n dX1_bringBack_13 rfl ?_
  refine a_VvW [2, 3, 4, 5, 6, 7, 8, 9, 10, 38, 39, 40, 41, 42, 43, 44, 45] (_) k_X1_bringBack_32 (c_X4_give (s := s0) (t := t) hz) dX1_bringBack_14 rfl rfl rfl rfl rfl rfl (Nat.le_of_ble_eq_true rfl) ⟨Nat.le_of_ble_eq_true rfl, Nat.le_of_ble_eq_true rfl⟩ ⟨rfl, rfl⟩ (Nat.le_of_ble_eq_true rfl) rfl ?_
  refine a_iconst 1 dX1_bringBack_17 (by decide) ?_
  refine a_istore dX1_bringBack_18 (by decide) rfl ?_
  refine a_iload dX1_bringBack_20 rfl ?_
  refine a_iconst 4 dX1_bringBack_22 (by decide) ?_
  refine a_icmp_ge 48 dX1_bringBack_23 (by decide) (fun z => absurd z (by decide)) (fun _ => ?_)
  refine a_aload_n dX1_bringBack_26 rfl ?_
  refine a_get fl_X1_11 dX1_bringBack_27 rfl rfl ?_
  refine a_iload dX1_bringBack_30 rfl ?_
  refine a_iconst 1 dX1_bringBack_32 (by decide) ?_
  refine a_isub dX1_bringBack_33 ?_
  refine a_aload_n dX1_bringBack_34 rfl ?_
  refine a_get fl_X1_11 dX1_bringBack_35 rfl rfl ?_
  refine a_iload dX1_bringBack_38 rfl ?_
  refine a_aald (j := 1) dX1_bringBack_40 rfl (vpD (by decide)) (by decide) rfl ?_
  refine a_aast (j := 0) dX1_bringBack_41 rfl rfl (vpD (by decide)) (by decide) ?_
  refine a_iinc 2 dX1_bringBack_42 rfl (by decide) (by decide) rfl ?_
  refine a_goto 20 dX1_bringBack_45 (by decide) ?_
  refine a_iload dX1_bringBack_20 rfl ?_
  refine a_iconst 4 dX1_bringBack_22 (by decide) ?_
  refine a_icmp_ge 48 dX1_bringBack_23 (by decide) (fun z => absurd z (by decide)) (fun _ => ?_)
  refine a_aload_n dX1_bringBack_26 rfl ?_
  refine a_get fl_X1_11 dX1_bringBack_27 rfl rfl ?_
  refine a_iload dX1_bringBack_30 rfl ?_
  refine a_iconst 1 dX1_bringBack_32 (by decide) ?_
  refine a_isub dX1_bringBack_33 ?_
  refine a_aload_n dX1_bringBack_34 rfl ?_
  refine a_get fl_X1_11 dX1_bringBack_35 rfl rfl ?_
  refine a_iload dX1_bringBack_38 rfl ?_
  refine a_aald (j := 2) dX1_bringBack_40 rfl (vpD (by decide)) (by decide) rfl ?_
  refine a_aast (j := 1) dX1_bringBack_41 rfl rfl (vpD (by decide)) (by decide) ?_
  refine a_iinc 3 dX1_bringBack_42 rfl (by decide) (by decide) rfl ?_
  refine a_goto 20 dX1_bringBack_45 (by decide) ?_
  refine a_iload dX1_bringBack_20 rfl ?_
  refine a_iconst 4 dX1_bringBack_22 (by decide) ?_
  refine a_icmp_ge 48 dX1_bringBack_23 (by decide) (fun z => absurd z (by decide)) (fun _ => ?_)
  refine a_aload_n dX1_bringBack_26 rfl ?_
  refine a_get fl_X1_11 dX1_bringBack_27 rfl rfl ?_
  refine a_iload dX1_bringBack_30 rfl ?_
  refine a_iconst 1 dX1_bringBack_32 (by decide) ?_
  refine a_isub dX1_bringBack_33 ?_
  refine a_aload_n dX1_bringBack_34 rfl ?_
  refine a_get fl_X1_11 dX1_bringBack_35 rfl rfl ?_
  refine a_iload dX1_bringBack_38 rfl ?_
  refine a_aald (j := 3) dX1_bringBack_40 rfl (vpD (by decide)) (by decide) rfl ?_
  refine a_aast (j := 2) dX1_bringBack_41 rfl rfl (vpD (by decide)) (by decide) ?_
  refine a_iinc 4 dX1_bringBack_42 rfl (by decide) (by decide) rfl ?_
  refine a_goto 20 dX1_bringBack_45 (by decide) ?_
  refine a_iload dX1_bringBack_20 rfl ?_
  refine a_iconst 4 dX1_bringBack_22 (by decide) ?_
  refine a_icmp_ge 48 dX1_bringBack_23 (by decide) (fun _ => ?_) (fun z => absurd (by decide) z)
  refine a_aload_n dX1_bringBack_48 rfl ?_
  refine a_get fl_X1_11 dX1_bringBack_49 rfl rfl ?_
  refine a_iconst 3 dX1_bringBack_52 (by decide) ?_
  refine a_aload_n dX1_bringBack_53 rfl ?_
  refine a_aast (j := 3) dX1_bringBack_54 rfl rfl (vpD (by decide)) (by decide) ?_
  refine a_aload_n dX1_bringBack_55 rfl ?_
  refine a_aload_n dX1_bringBack_56 rfl ?_
  refine a_get fl_X1_17 dX1_bringBack_57 rfl rfl ?_
  refine a_iconst 1 dX1_bringBack_60 (by decide) ?_
  refine a_isub dX1_bringBack_61 ?_
  refine a_iconst 0 dX1_bringBack_62 (by decide) ?_
  refine a_max mm_X1_35 mt_max_st ini_J9 mt_max_cd dX1_bringBack_63 (by decide) (Nat.le_of_ble_eq_true rfl) (by decide) (by decide) ?_
  have hmax : (if nI z - 1 < 0 then (0 : Int32) else nI z - 1) = nI (z - 1) := by
    obtain ⟨y, rfl⟩ : ∃ y, z = y + 1 := ⟨z - 1, by omega⟩
    rw [nI_pred, if_neg (nI_pos (by omega))]
    rfl
  rw [hmax]
  refine a_put fp_X1_17 dX1_bringBack_66 rfl (Nat.le_of_ble_eq_true rfl) (fun _ => ⟨rfl, rfl⟩) ?_
  refine a_sel (L' := [.ref 0, .ref 38, .ref 43, .ref 29, .int 4]) (st' := []) (h' := aHi 0 (z - 1) s1 s2 s3 s0 ++ aFP 38 (sCp s0 t)) [0, 1, 11, 12, 13, 14, 15, 16, 17, 18, 19, 20, 21, 22, 23, 24, 25, 26, 27, 28, 29, 30, 31, 32, 33, 34, 35, 36, 37, 2, 3, 4, 5, 6, 7, 8, 9, 10, 38, 39, 40, 41, 42, 43, 44, 45] rfl rfl rfl rfl rfl ?_
  refine a_vret rfl dX1_bringBack_69 (by decide) (by decide) ?_
  exact ⟨rfl, rfl⟩
end HST
end
section
/-! written by wip/whole/pp.py out of wip/whole/src/22.pt.lean -/
theorem dX6_init_0 : decode cX6_init 0 = .ok (.aload_n 0, 1) := by decide +kernel
theorem dX6_init_1 : decode cX6_init 1 = .ok (.invokespecial 1, 3) := by decide +kernel
theorem dX6_init_4 : decode cX6_init 4 = .ok (.aload_n 0, 1) := by decide +kernel
theorem dX6_init_5 : decode cX6_init 5 = .ok (.new 7, 3) := by decide +kernel
theorem dX6_init_8 : decode cX6_init 8 = .ok (.dup, 1) := by decide +kernel
theorem dX6_init_9 : decode cX6_init 9 = .ok (.invokespecial 9, 3) := by decide +kernel
theorem dX6_init_12 : decode cX6_init 12 = .ok (.putfield 10, 3) := by decide +kernel
theorem dX6_init_15 : decode cX6_init 15 = .ok (.aload_n 0, 1) := by decide +kernel
theorem dX6_init_16 : decode cX6_init 16 = .ok (.new 16, 3) := by decide +kernel
theorem dX6_init_19 : decode cX6_init 19 = .ok (.dup, 1) := by decide +kernel
theorem dX6_init_20 : decode cX6_init 20 = .ok (.invokespecial 18, 3) := by decide +kernel
theorem dX6_init_23 : decode cX6_init 23 = .ok (.putfield 19, 3) := by decide +kernel
theorem dX6_init_26 : decode cX6_init 26 = .ok (.aload_n 0, 1) := by decide +kernel
theorem dX6_init_27 : decode cX6_init 27 = .ok (.new 23, 3) := by decide +kernel
theorem dX6_init_30 : decode cX6_init 30 = .ok (.dup, 1) := by decide +kernel
theorem dX6_init_31 : decode cX6_init 31 = .ok (.bipush 13, 2) := by decide +kernel
theorem dX6_init_33 : decode cX6_init 33 = .ok (.invokespecial 25, 3) := by decide +kernel
theorem dX6_init_36 : decode cX6_init 36 = .ok (.putfield 28, 3) := by decide +kernel
theorem dX6_init_39 : decode cX6_init 39 = .ok (.aload_n 0, 1) := by decide +kernel
theorem dX6_init_40 : decode cX6_init 40 = .ok (.new 32, 3) := by decide +kernel
theorem dX6_init_43 : decode cX6_init 43 = .ok (.dup, 1) := by decide +kernel
theorem dX6_init_44 : decode cX6_init 44 = .ok (.invokespecial 34, 3) := by decide +kernel
theorem dX6_init_47 : decode cX6_init 47 = .ok (.putfield 35, 3) := by decide +kernel
theorem dX6_init_50 : decode cX6_init 50 = .ok (.aload_n 0, 1) := by decide +kernel
theorem dX6_init_51 : decode cX6_init 51 = .ok (.new 39, 3) := by decide +kernel
theorem dX6_init_54 : decode cX6_init 54 = .ok (.dup, 1) := by decide +kernel
theorem dX6_init_55 : decode cX6_init 55 = .ok (.invokespecial 41, 3) := by decide +kernel
theorem dX6_init_58 : decode cX6_init 58 = .ok (.putfield 42, 3) := by decide +kernel
theorem dX6_init_61 : decode cX6_init 61 = .ok (.return_, 1) := by decide +kernel
theorem dX6_checkName_0 : decode cX6_checkName 0 = .ok (.iload_n 0, 1) := by decide +kernel
theorem dX6_checkName_1 : decode cX6_checkName 1 = .ok (.iconst 1, 1) := by decide +kernel
theorem dX6_checkName_2 : decode cX6_checkName 2 = .ok (.if_icmp .lt 10, 3) := by decide +kernel
theorem dX6_checkName_5 : decode cX6_checkName 5 = .ok (.iload_n 0, 1) := by decide +kernel
theorem dX6_checkName_6 : decode cX6_checkName 6 = .ok (.sipush 9999, 3) := by decide +kernel
theorem dX6_checkName_9 : decode cX6_checkName 9 = .ok (.if_icmp .le 13, 3) := by decide +kernel
theorem dX6_checkName_12 : decode cX6_checkName 12 = .ok (.new 50, 3) := by decide +kernel
theorem dX6_checkName_15 : decode cX6_checkName 15 = .ok (.dup, 1) := by decide +kernel
theorem dX6_checkName_16 : decode cX6_checkName 16 = .ok (.ldc 227, 2) := by decide +kernel
theorem dX6_checkName_18 : decode cX6_checkName 18 = .ok (.invokespecial 54, 3) := by decide +kernel
theorem dX6_checkName_21 : decode cX6_checkName 21 = .ok (.athrow, 1) := by decide +kernel
theorem dX6_checkName_22 : decode cX6_checkName 22 = .ok (.return_, 1) := by decide +kernel
theorem dX6_checkWeight_0 : decode cX6_checkWeight 0 = .ok (.iload_n 0, 1) := by decide +kernel
theorem dX6_checkWeight_1 : decode cX6_checkWeight 1 = .ok (.iconst 1, 1) := by decide +kernel
theorem dX6_checkWeight_2 : decode cX6_checkWeight 2 = .ok (.if_icmp .lt 9, 3) := by decide +kernel
theorem dX6_checkWeight_5 : decode cX6_checkWeight 5 = .ok (.iload_n 0, 1) := by decide +kernel
theorem dX6_checkWeight_6 : decode cX6_checkWeight 6 = .ok (.bipush 16, 2) := by decide +kernel
theorem dX6_checkWeight_8 : decode cX6_checkWeight 8 = .ok (.if_icmp .le 13, 3) := by decide +kernel
theorem dX6_checkWeight_11 : decode cX6_checkWeight 11 = .ok (.new 50, 3) := by decide +kernel
theorem dX6_checkWeight_14 : decode cX6_checkWeight 14 = .ok (.dup, 1) := by decide +kernel
theorem dX6_checkWeight_15 : decode cX6_checkWeight 15 = .ok (.ldc 229, 2) := by decide +kernel
theorem dX6_checkWeight_17 : decode cX6_checkWeight 17 = .ok (.invokespecial 54, 3) := by decide +kernel
theorem dX6_checkWeight_20 : decode cX6_checkWeight 20 = .ok (.athrow, 1) := by decide +kernel
theorem dX6_checkWeight_21 : decode cX6_checkWeight 21 = .ok (.return_, 1) := by decide +kernel
theorem dX6_checkKey_0 : decode cX6_checkKey 0 = .ok (.iload_n 0, 1) := by decide +kernel
theorem dX6_checkKey_1 : decode cX6_checkKey 1 = .ok (.ifCond .lt 9, 3) := by decide +kernel
theorem dX6_checkKey_4 : decode cX6_checkKey 4 = .ok (.iload_n 0, 1) := by decide +kernel
theorem dX6_checkKey_5 : decode cX6_checkKey 5 = .ok (.ldc 231, 2) := by decide +kernel
theorem dX6_checkKey_7 : decode cX6_checkKey 7 = .ok (.if_icmp .le 13, 3) := by decide +kernel
theorem dX6_checkKey_10 : decode cX6_checkKey 10 = .ok (.new 50, 3) := by decide +kernel
theorem dX6_checkKey_13 : decode cX6_checkKey 13 = .ok (.dup, 1) := by decide +kernel
theorem dX6_checkKey_14 : decode cX6_checkKey 14 = .ok (.ldc 232, 2) := by decide +kernel
theorem dX6_checkKey_16 : decode cX6_checkKey 16 = .ok (.invokespecial 54, 3) := by decide +kernel
theorem dX6_checkKey_19 : decode cX6_checkKey 19 = .ok (.athrow, 1) := by decide +kernel
theorem dX6_checkKey_20 : decode cX6_checkKey 20 = .ok (.return_, 1) := by decide +kernel
theorem dX6_checkServer_0 : decode cX6_checkServer 0 = .ok (.aload_n 0, 1) := by decide +kernel
theorem dX6_checkServer_1 : decode cX6_checkServer 1 = .ok (.getfield 10, 3) := by decide +kernel
theorem dX6_checkServer_4 : decode cX6_checkServer 4 = .ok (.iload_n 1, 1) := by decide +kernel
theorem dX6_checkServer_5 : decode cX6_checkServer 5 = .ok (.invokevirtual 234, 3) := by decide +kernel
theorem dX6_checkServer_8 : decode cX6_checkServer 8 = .ok (.ifCond .ne 13, 3) := by decide +kernel
theorem dX6_checkServer_11 : decode cX6_checkServer 11 = .ok (.new 50, 3) := by decide +kernel
theorem dX6_checkServer_14 : decode cX6_checkServer 14 = .ok (.dup, 1) := by decide +kernel
theorem dX6_checkServer_15 : decode cX6_checkServer 15 = .ok (.ldc 237, 2) := by decide +kernel
theorem dX6_checkServer_17 : decode cX6_checkServer 17 = .ok (.invokespecial 54, 3) := by decide +kernel
theorem dX6_checkServer_20 : decode cX6_checkServer 20 = .ok (.athrow, 1) := by decide +kernel
theorem dX6_checkServer_21 : decode cX6_checkServer 21 = .ok (.return_, 1) := by decide +kernel
theorem dX6_checkEntry_0 : decode cX6_checkEntry 0 = .ok (.aload_n 0, 1) := by decide +kernel
theorem dX6_checkEntry_1 : decode cX6_checkEntry 1 = .ok (.getfield 35, 3) := by decide +kernel
theorem dX6_checkEntry_4 : decode cX6_checkEntry 4 = .ok (.iload_n 1, 1) := by decide +kernel
theorem dX6_checkEntry_5 : decode cX6_checkEntry 5 = .ok (.invokevirtual 239, 3) := by decide +kernel
theorem dX6_checkEntry_8 : decode cX6_checkEntry 8 = .ok (.ifCond .ne 13, 3) := by decide +kernel
theorem dX6_checkEntry_11 : decode cX6_checkEntry 11 = .ok (.new 182, 3) := by decide +kernel
theorem dX6_checkEntry_14 : decode cX6_checkEntry 14 = .ok (.dup, 1) := by decide +kernel
theorem dX6_checkEntry_15 : decode cX6_checkEntry 15 = .ok (.ldc 240, 2) := by decide +kernel
theorem dX6_checkEntry_17 : decode cX6_checkEntry 17 = .ok (.invokespecial 186, 3) := by decide +kernel
theorem dX6_checkEntry_20 : decode cX6_checkEntry 20 = .ok (.athrow, 1) := by decide +kernel
theorem dX6_checkEntry_21 : decode cX6_checkEntry 21 = .ok (.return_, 1) := by decide +kernel
theorem dX6_checkRoomForPin_0 : decode cX6_checkRoomForPin 0 = .ok (.aload_n 0, 1) := by decide +kernel
theorem dX6_checkRoomForPin_1 : decode cX6_checkRoomForPin 1 = .ok (.getfield 19, 3) := by decide +kernel
theorem dX6_checkRoomForPin_4 : decode cX6_checkRoomForPin 4 = .ok (.iload_n 1, 1) := by decide +kernel
theorem dX6_checkRoomForPin_5 : decode cX6_checkRoomForPin 5 = .ok (.invokevirtual 196, 3) := by decide +kernel
theorem dX6_checkRoomForPin_8 : decode cX6_checkRoomForPin 8 = .ok (.iconst (-1), 1) := by decide +kernel
theorem dX6_checkRoomForPin_9 : decode cX6_checkRoomForPin 9 = .ok (.if_icmp .ne 25, 3) := by decide +kernel
theorem dX6_checkRoomForPin_12 : decode cX6_checkRoomForPin 12 = .ok (.aload_n 0, 1) := by decide +kernel
theorem dX6_checkRoomForPin_13 : decode cX6_checkRoomForPin 13 = .ok (.getfield 19, 3) := by decide +kernel
theorem dX6_checkRoomForPin_16 : decode cX6_checkRoomForPin 16 = .ok (.invokevirtual 195, 3) := by decide +kernel
theorem dX6_checkRoomForPin_19 : decode cX6_checkRoomForPin 19 = .ok (.bipush 6, 2) := by decide +kernel
theorem dX6_checkRoomForPin_21 : decode cX6_checkRoomForPin 21 = .ok (.if_icmp .lt 13, 3) := by decide +kernel
theorem dX6_checkRoomForPin_24 : decode cX6_checkRoomForPin 24 = .ok (.new 101, 3) := by decide +kernel
theorem dX6_checkRoomForPin_27 : decode cX6_checkRoomForPin 27 = .ok (.dup, 1) := by decide +kernel
theorem dX6_checkRoomForPin_28 : decode cX6_checkRoomForPin 28 = .ok (.ldc 242, 2) := by decide +kernel
theorem dX6_checkRoomForPin_30 : decode cX6_checkRoomForPin 30 = .ok (.invokespecial 105, 3) := by decide +kernel
theorem dX6_checkRoomForPin_33 : decode cX6_checkRoomForPin 33 = .ok (.athrow, 1) := by decide +kernel
theorem dX6_checkRoomForPin_34 : decode cX6_checkRoomForPin 34 = .ok (.return_, 1) := by decide +kernel
theorem k_X6_init_9 : aKI mX6_init mX0_init 9 0 := ⟨cb_X0_init, rfl, rfl, (Or.inr ⟨_, mn_X6_9⟩), iv_X0_init, rfl, ⟨Nat.le_of_ble_eq_true rfl, Nat.le_of_ble_eq_true rfl⟩⟩
theorem k_X6_init_18 : aKI mX6_init mX2_init 18 0 := ⟨cb_X2_init, rfl, rfl, (Or.inr ⟨_, mn_X6_18⟩), iv_X2_init, rfl, ⟨Nat.le_of_ble_eq_true rfl, Nat.le_of_ble_eq_true rfl⟩⟩
theorem k_X6_init_25 : aKI mX6_init mX3_init 25 1 := ⟨cb_X3_init, rfl, rfl, (Or.inl ml_X6_25), iv_X3_init, rfl, ⟨Nat.le_of_ble_eq_true rfl, Nat.le_of_ble_eq_true rfl⟩⟩
theorem k_X6_init_34 : aKI mX6_init mX5_init 34 0 := ⟨cb_X5_init, rfl, rfl, (Or.inr ⟨_, mn_X6_34⟩), iv_X5_init, rfl, ⟨Nat.le_of_ble_eq_true rfl, Nat.le_of_ble_eq_true rfl⟩⟩
theorem k_X6_init_41 : aKI mX6_init mX1_init 41 0 := ⟨cb_X1_init, rfl, rfl, (Or.inl ml_X6_41), iv_X1_init, rfl, ⟨Nat.le_of_ble_eq_true rfl, Nat.le_of_ble_eq_true rfl⟩⟩
theorem k_X6_checkServer_234 : aKV mX6_checkServer mX0_has 234 1 0 := ⟨cb_X0_has, rfl, ml_X6_234, iv_X0_has, sl_X0_has, ⟨_, _, rfl⟩, ⟨Nat.le_of_ble_eq_true rfl, Nat.le_of_ble_eq_true rfl⟩⟩
theorem k_X6_checkEntry_239 : aKV mX6_checkEntry mX5_has 239 1 5 := ⟨cb_X5_has, rfl, ml_X6_239, iv_X5_has, sl_X5_has, ⟨_, _, rfl⟩, ⟨Nat.le_of_ble_eq_true rfl, Nat.le_of_ble_eq_true rfl⟩⟩
theorem k_X6_checkRoomForPin_196 : aKV mX6_checkRoomForPin mX2_server 196 1 2 := ⟨cb_X2_server, rfl, ml_X6_196, iv_X2_server, sl_X2_server, ⟨_, _, rfl⟩, ⟨Nat.le_of_ble_eq_true rfl, Nat.le_of_ble_eq_true rfl⟩⟩
theorem k_X6_checkRoomForPin_195 : aKV mX6_checkRoomForPin mX2_size 195 0 2 := ⟨cb_X2_size, rfl, ml_X6_195, iv_X2_size, sl_X2_size, ⟨_, _, rfl⟩, ⟨Nat.le_of_ble_eq_true rfl, Nat.le_of_ble_eq_true rfl⟩⟩
/-! ===== PreferenceTable ===== -/
abbrev IAE : String := "java/lang/IllegalArgumentException"
abbrev ISE : String := "java/lang/IllegalStateException"
abbrev IOE : String := "java/lang/IndexOutOfBoundsException"
section PTW
variable {l : Launch} {X : aX} {M M' : aM} {F : aPh} {kc ks pc : Nat} {L st rest As av : List Value} {h hc : List aCell} {rs rs0 : List Nat} {Q : aQt} {n idx ci b : Nat} {fs : List Value} {E : String}
/-- calls that throw, or answer nothing and change nothing -/
theorem a_Sx (is : List Nat) (hk : aKS M M' idx n) (hC : aMt l X M' rs av hc (fun o h' => o = .inr E ∧ h' = hc)) (hd : decode M.2.1 pc = .ok (.invokestatic idx, 3)) (hnn : av.length = n) (hs : aSel h is hc) (hn : va_nd is = true) (hst : st = aPush (av.map (aRv (aRi h.length is))) rest) (hkeep : aKeep is rs h.length L rest h rs0 = true) (hcat : (rest.map fun v => v.category).sum ≤ 8) (hf : kc + aMc M' ≤ aMc M ∧ ks + aMs M' ≤ aMs M) (hh : M.2.2.2.2.1 = []) (hq : Q (.inr E) h) : aJ l X M (aEd X M rs0 Q) kc ks pc L st h := by
  obtain ⟨k1, k2, k3, k4, k5⟩ := hk
  refine a_callS hC k1 k2 k3 k4 hnn hs hn hst hkeep hcat k5 hf hd (fun E' h' z => ?_) (fun v h' z => nomatch z.1)
  obtain ⟨z1, rfl⟩ := z
  cases z1
  rw [aMg_id hs hn]
  exact ⟨by rw [hs.len]; exact Nat.le_refl _, a_out hh hf.1 hf.2 hq⟩
theorem a_Sr (is : List Nat) (hk : aKS M M' idx n) (hC : aMt l X M' rs av hc (fun o h' => o = .inl none ∧ h' = hc)) (hd : decode M.2.1 pc = .ok (.invokestatic idx, 3)) (hnn : av.length = n) (hs : aSel h is hc) (hn : va_nd is = true) (hst : st = aPush (av.map (aRv (aRi h.length is))) rest) (hkeep : aKeep is rs h.length L rest h F.1 = true) (hcat : (rest.map fun v => v.category).sum ≤ 8) (hf : kc + aMc M' ≤ aMc M ∧ ks + aMs M' ≤ aMs M) (kk : aJ l X M F (kc + aMc M') (ks + aMs M') (pc + 3) L rest h) : aJ l X M F kc ks pc L st h := by
  obtain ⟨k1, k2, k3, k4, k5⟩ := hk
  refine a_callS hC k1 k2 k3 k4 hnn hs hn hst hkeep hcat k5 hf hd (fun E' h' z => nomatch z.1) (fun v h' z => ?_)
  obtain ⟨z1, rfl⟩ := z
  cases z1
  rw [aMg_id hs hn]
  exact ⟨by rw [hs.len]; exact Nat.le_refl _, kk⟩
theorem a_Vx (is : List Nat) (hk : aKV M M' idx n ci) (hC : aMt l X M' rs (.ref b :: As) hc (fun o h' => o = .inr E ∧ h' = hc)) (hd : decode M.2.1 pc = .ok (.invokevirtual idx, 3)) (hnn : As.length = n) (hrc : hc[b]? = some (aOb ci fs)) (hs : aSel h is hc) (hn : va_nd is = true) (hst : st = aPush ((.ref b :: As).map (aRv (aRi h.length is))) rest) (hkeep : aKeep is rs h.length L rest h rs0 = true) (hcat : (rest.map fun v => v.category).sum ≤ 8) (hf : kc + aMc M' ≤ aMc M ∧ ks + aMs M' ≤ aMs M) (hh : M.2.2.2.2.1 = []) (hq : Q (.inr E) h) : aJ l X M (aEd X M rs0 Q) kc ks pc L st h := by
  obtain ⟨k1, k2, k3, k4, k5, ⟨T, N, k6⟩, k7⟩ := hk
  refine a_callV (C := RX0) hC k1 k2 k3 k4 k5 rfl hnn hrc k6 hs hn hst hkeep hcat k7 hf hd (fun E' h' z => ?_) (fun v h' z => nomatch z.1)
  obtain ⟨z1, rfl⟩ := z
  cases z1
  rw [aMg_id hs hn]
  exact ⟨by rw [hs.len]; exact Nat.le_refl _, a_out hh hf.1 hf.2 hq⟩
theorem a_Vr (is : List Nat) (hk : aKV M M' idx n ci) (hC : aMt l X M' rs (.ref b :: As) hc (fun o h' => o = .inl none ∧ h' = hc)) (hd : decode M.2.1 pc = .ok (.invokevirtual idx, 3)) (hnn : As.length = n) (hrc : hc[b]? = some (aOb ci fs)) (hs : aSel h is hc) (hn : va_nd is = true) (hst : st = aPush ((.ref b :: As).map (aRv (aRi h.length is))) rest) (hkeep : aKeep is rs h.length L rest h F.1 = true) (hcat : (rest.map fun v => v.category).sum ≤ 8) (hf : kc + aMc M' ≤ aMc M ∧ ks + aMs M' ≤ aMs M) (kk : aJ l X M F (kc + aMc M') (ks + aMs M') (pc + 3) L rest h) : aJ l X M F kc ks pc L st h := by
  obtain ⟨k1, k2, k3, k4, k5, ⟨T, N, k6⟩, k7⟩ := hk
  refine a_callV (C := RX0) hC k1 k2 k3 k4 k5 rfl hnn hrc k6 hs hn hst hkeep hcat k7 hf hd (fun E' h' z => nomatch z.1) (fun v h' z => ?_)
  obtain ⟨z1, rfl⟩ := z
  cases z1
  rw [aMg_id hs hn]
  exact ⟨by rw [hs.len]; exact Nat.le_refl _, kk⟩
end PTW
/-- servers and pins, in whole numbers: names (0: free), weights, up, loads, pinned keys, their servers, how many -/
abbrev fT : Type := (Nat → Nat) × (Nat → Nat) × (Nat → Bool) × (Nat → Int64) × (Nat → Int32) × (Nat → Int32) × Nat
def cS (t : fT) : sT := (fun j => nI (t.1 j), fun j => nI (t.2.1 j), fun j => bI (t.2.2.1 j), t.2.2.2.1, t.2.2.2.2.1, t.2.2.2.2.2.1, t.2.2.2.2.2.2)
/-- the table: M, owners, draft, tried, changed, forced -/
abbrev bT : Type := Nat × (Nat → Int32) × (Nat → Int32) × (Nat → Int32) × Int32 × Int32
/-- the tracker: keys, counts, errors; how many -/
abbrev kT : Type := tT × Nat
/-- what can be undone: how many, newest first -/
abbrev hT : Type := Nat × fT × fT × fT × fT
abbrev aTB (b : Nat) (t : bT) : List aCell := [aOb 3 [.int (nI t.1), .ref (b + 1), .ref (b + 2), .ref (b + 3), .int t.2.2.2.2.1, .int t.2.2.2.2.2], aIa 61 t.2.1, aIa 61 t.2.2.1, aIa 10 t.2.2.2.1]
abbrev aTK (b : Nat) (k : kT) : List aCell := [aOb 5 [.ref (b + 1), .ref (b + 2), .ref (b + 3), .int (nI k.2)], aIa 8 k.1.1, aLa 8 k.1.2.1, aLa 8 k.1.2.2]
abbrev aPT (t : fT) (b : bT) (k : kT) (y : hT) : List aCell := [aOb 6 [.ref 1, .ref 6, .ref 9, .ref 13, .ref 17]] ++ (aFP 1 (cS t) ++ (aTB 9 b ++ (aTK 13 k ++ aHi 17 y.1 (cS y.2.1) (cS y.2.2.1) (cS y.2.2.2.1) (cS y.2.2.2.2))))
abbrev is55 : List Nat := [0, 1, 2, 3, 4, 5, 6, 7, 8, 9, 10, 11, 12, 13, 14, 15, 16, 17, 18, 19, 20, 21, 22, 23, 24, 25, 26, 27, 28, 29, 30, 31, 32, 33, 34, 35, 36, 37, 38, 39, 40, 41, 42, 43, 44, 45, 46, 47, 48, 49, 50, 51, 52, 53, 54]
abbrev isHF : List Nat := [17, 18, 19, 20, 21, 22, 23, 24, 25, 26, 27, 28, 29, 30, 31, 32, 33, 34, 35, 36, 37, 38, 39, 40, 41, 42, 43, 44, 45, 46, 47, 48, 49, 50, 51, 52, 53, 54, 1, 2, 3, 4, 5, 6, 7, 8]
def b0T : bT := (13, fFl 61 (fun _ => -1) (fun _ => 0), fun _ => 0, fun _ => 0, 0, 0)
def f0T : fT := (fun _ => 0, fun _ => 0, fun _ => false, fun _ => 0, fun _ => 0, fun _ => 0, 0)
def k0T : kT := ((fun _ => 0, fun _ => 0, fun _ => 0), 0)
theorem c0T : cS f0T = s0T := rfl
/-- ranges of arguments -/
def gNm (n : Int32) : Bool := decide (¬ n < 1) && decide (n ≤ 9999)
def gWt (n : Int32) : Bool := decide (¬ n < 1) && decide (n ≤ 16)
def gKy (n : Int32) : Bool := decide (¬ n < 0) && decide (n ≤ 99999)
section PT1
variable {l : Launch} {X : aX} {t : fT} {b : bT} {k : kT} {y : hT}
set_option maxRecDepth 20000 in
theorem c_X6_init : aWr l X mX6_init [0] [.ref 0] [aOb 6 [.null, .null, .null, .null, .null]] none (aPT f0T b0T k0T (0, f0T, f0T, f0T, f0T)) := by
  refine aMt.of (by decide) rfl (Nat.le_of_ble_eq_true rfl) ?_
  refine a_aload_n dX6_init_0 rfl ?_
  refine a_objInit ml_X6_1 oi_iv oi_cd dX6_init_1 (by decide) (Nat.le_of_ble_eq_true rfl) ?_
  refine a_aload_n dX6_init_4 rfl ?_
  refine a_new (ci := 0) (fs := [.null, .null, .null, .null]) rfl u_X0 tyX0_ok kl_X6_7 ins_X0 ini_X0 dX6_init_5 (fun j hj => by first | (match j, hj with | 0, _ => rfl | 1, _ => rfl | 2, _ => rfl | 3, _ => rfl)) (fun _ => rfl) rfl (by decide) (by decide) ?_
  refine a_dup dX6_init_8 rfl ?_
  refine a_IvW [1] (_) k_X6_init_9 (c_X0_init) dX6_init_9 rfl rfl rfl rfl rfl (Nat.le_of_ble_eq_true rfl) ⟨Nat.le_of_ble_eq_true rfl, Nat.le_of_ble_eq_true rfl⟩ (Nat.le_of_ble_eq_true rfl) rfl ?_
  refine a_putF fp_X6_10 rfl dX6_init_12 rfl (Nat.le_of_ble_eq_true rfl) (fun _ => ⟨rfl, rfl⟩) ?_
  refine a_aload_n dX6_init_15 rfl ?_
  refine a_new (ci := 2) (fs := [.null, .null, .int 0]) rfl u_X2 tyX2_ok kl_X6_16 ins_X2 ini_X2 dX6_init_16 (fun j hj => by first | (match j, hj with | 0, _ => rfl | 1, _ => rfl | 2, _ => rfl)) (fun _ => rfl) rfl (by decide) (by decide) ?_
  refine a_dup dX6_init_19 rfl ?_
  refine a_IvW [6] (_) k_X6_init_18 (c_X2_init) dX6_init_20 rfl rfl rfl rfl rfl (Nat.le_of_ble_eq_true rfl) ⟨Nat.le_of_ble_eq_true rfl, Nat.le_of_ble_eq_true rfl⟩ (Nat.le_of_ble_eq_true rfl) rfl ?_
  refine a_putF fp_X6_19 rfl dX6_init_23 rfl (Nat.le_of_ble_eq_true rfl) (fun _ => ⟨rfl, rfl⟩) ?_
  refine a_aload_n dX6_init_26 rfl ?_
  refine a_new (ci := 3) (fs := [.int 0, .null, .null, .null, .int 0, .int 0]) rfl u_X3 tyX3_ok kl_X6_23 ins_X3 ini_X3 dX6_init_27 (fun j hj => by first | (match j, hj with | 0, _ => rfl | 1, _ => rfl | 2, _ => rfl | 3, _ => rfl | 4, _ => rfl | 5, _ => rfl)) (fun _ => rfl) rfl (by decide) (by decide) ?_
  refine a_dup dX6_init_30 rfl ?_
  refine a_bipush 13 dX6_init_31 (by decide) ?_
  refine a_IvW [9] (_) k_X6_init_25 (c_X3_init 13 (by decide)) dX6_init_33 rfl rfl rfl rfl rfl (Nat.le_of_ble_eq_true rfl) ⟨Nat.le_of_ble_eq_true rfl, Nat.le_of_ble_eq_true rfl⟩ (Nat.le_of_ble_eq_true rfl) rfl ?_
  refine a_putF fp_X6_28 rfl dX6_init_36 rfl (Nat.le_of_ble_eq_true rfl) (fun _ => ⟨rfl, rfl⟩) ?_
  refine a_aload_n dX6_init_39 rfl ?_
  refine a_new (ci := 5) (fs := [.null, .null, .null, .int 0]) rfl u_X5 tyX5_ok kl_X6_32 ins_X5 ini_X5 dX6_init_40 (fun j hj => by first | (match j, hj with | 0, _ => rfl | 1, _ => rfl | 2, _ => rfl | 3, _ => rfl)) (fun _ => rfl) rfl (by decide) (by decide) ?_
  refine a_dup dX6_init_43 rfl ?_
  refine a_IvW [13] (_) k_X6_init_34 (c_X5_init) dX6_init_44 rfl rfl rfl rfl rfl (Nat.le_of_ble_eq_true rfl) ⟨Nat.le_of_ble_eq_true rfl, Nat.le_of_ble_eq_true rfl⟩ (Nat.le_of_ble_eq_true rfl) rfl ?_
  refine a_putF fp_X6_35 rfl dX6_init_47 rfl (Nat.le_of_ble_eq_true rfl) (fun _ => ⟨rfl, rfl⟩) ?_
  refine a_aload_n dX6_init_50 rfl ?_
  refine a_new (ci := 1) (fs := [.null, .int 0]) rfl u_X1 tyX1_ok kl_X6_39 ins_X1 ini_X1 dX6_init_51 (fun j hj => by first | (match j, hj with | 0, _ => rfl | 1, _ => rfl)) (fun _ => rfl) rfl (by decide) (by decide) ?_
  refine a_dup dX6_init_54 rfl ?_
  refine a_IvW [17] (_) k_X6_init_41 (c_X1_init) dX6_init_55 rfl rfl rfl rfl rfl (Nat.le_of_ble_eq_true rfl) ⟨Nat.le_of_ble_eq_true rfl, Nat.le_of_ble_eq_true rfl⟩ (Nat.le_of_ble_eq_true rfl) rfl ?_
  refine a_putF fp_X6_42 rfl dX6_init_58 rfl (Nat.le_of_ble_eq_true rfl) (fun _ => ⟨rfl, rfl⟩) ?_
  refine a_vret rfl dX6_init_61 (by decide) (by decide) ?_
  exact ⟨rfl, rfl⟩
theorem c_X6_checkName (hl : l.stackTraces = false) (n : Int32) : aMt l X mX6_checkName [] [.int n] [] (fun o h' => o = (if gNm n then .inl none else .inr IAE) ∧ h' = []) := by
  refine aMt.of (by decide) rfl (Nat.le_of_ble_eq_true rfl) ?_
  refine a_iload_n dX6_checkName_0 rfl ?_
  refine a_iconst 1 dX6_checkName_1 (by decide) ?_
  refine a_icmp_lt 12 dX6_checkName_2 (by decide) (fun c2 => ?_) (fun c2 => ?_)
  · refine a_throw hl tw_54 tx_X6_227 rfl dX6_checkName_12 dX6_checkName_15 dX6_checkName_16 dX6_checkName_18 dX6_checkName_21 ⟨Nat.le_of_ble_eq_true rfl, Nat.le_of_ble_eq_true rfl⟩ (Nat.le_of_ble_eq_true rfl) (Nat.le_of_ble_eq_true rfl) ?_
    exact ⟨by simp [gNm, c2], rfl⟩
  · refine a_iload_n dX6_checkName_5 rfl ?_
    refine a_sipush 9999 dX6_checkName_6 (by decide) ?_
    refine a_icmp_le 22 dX6_checkName_9 (by decide) (fun c9 => ?_) (fun c9 => ?_)
    · refine a_vret rfl dX6_checkName_22 (by decide) (by decide) ?_
      exact ⟨by simp [gNm, c2, c9], rfl⟩
    · refine a_throw hl tw_54 tx_X6_227 rfl dX6_checkName_12 dX6_checkName_15 dX6_checkName_16 dX6_checkName_18 dX6_checkName_21 ⟨Nat.le_of_ble_eq_true rfl, Nat.le_of_ble_eq_true rfl⟩ (Nat.le_of_ble_eq_true rfl) (Nat.le_of_ble_eq_true rfl) ?_
      exact ⟨by simp [gNm, c9], rfl⟩
theorem c_X6_checkWeight (hl : l.stackTraces = false) (n : Int32) : aMt l X mX6_checkWeight [] [.int n] [] (fun o h' => o = (if gWt n then .inl none else .inr IAE) ∧ h' = []) := by
  refine aMt.of (by decide) rfl (Nat.le_of_ble_eq_true rfl) ?_
  refine a_iload_n dX6_checkWeight_0 rfl ?_
  refine a_iconst 1 dX6_checkWeight_1 (by decide) ?_
  refine a_icmp_lt 11 dX6_checkWeight_2 (by decide) (fun c2 => ?_) (fun c2 => ?_)
  · refine a_throw hl tw_54 tx_X6_229 rfl dX6_checkWeight_11 dX6_checkWeight_14 dX6_checkWeight_15 dX6_checkWeight_17 dX6_checkWeight_20 ⟨Nat.le_of_ble_eq_true rfl, Nat.le_of_ble_eq_true rfl⟩ (Nat.le_of_ble_eq_true rfl) (Nat.le_of_ble_eq_true rfl) ?_
    exact ⟨by simp [gWt, c2], rfl⟩
  · refine a_iload_n dX6_checkWeight_5 rfl ?_
    refine a_bipush 16 dX6_checkWeight_6 (by decide) ?_
    refine a_icmp_le 21 dX6_checkWeight_8 (by decide) (fun c8 => ?_) (fun c8 => ?_)
    · refine a_vret rfl dX6_checkWeight_21 (by decide) (by decide) ?_
      exact ⟨by simp [gWt, c2, c8], rfl⟩
    · refine a_throw hl tw_54 tx_X6_229 rfl dX6_checkWeight_11 dX6_checkWeight_14 dX6_checkWeight_15 dX6_checkWeight_17 dX6_checkWeight_20 ⟨Nat.le_of_ble_eq_true rfl, Nat.le_of_ble_eq_true rfl⟩ (Nat.le_of_ble_eq_true rfl) (Nat.le_of_ble_eq_true rfl) ?_
      exact ⟨by simp [gWt, c8], rfl⟩
theorem c_X6_checkKey (hl : l.stackTraces = false) (n : Int32) : aMt l X mX6_checkKey [] [.int n] [] (fun o h' => o = (if gKy n then .inl none else .inr IAE) ∧ h' = []) := by
  refine aMt.of (by decide) rfl (Nat.le_of_ble_eq_true rfl) ?_
  refine a_iload_n dX6_checkKey_0 rfl ?_
  refine a_if_lt 10 dX6_checkKey_1 (by decide) (fun c1 => ?_) (fun c1 => ?_)
  · refine a_throw hl tw_54 tx_X6_232 rfl dX6_checkKey_10 dX6_checkKey_13 dX6_checkKey_14 dX6_checkKey_16 dX6_checkKey_19 ⟨Nat.le_of_ble_eq_true rfl, Nat.le_of_ble_eq_true rfl⟩ (Nat.le_of_ble_eq_true rfl) (Nat.le_of_ble_eq_true rfl) ?_
    exact ⟨by simp [gKy, c1], rfl⟩
  · refine a_iload_n dX6_checkKey_4 rfl ?_
    refine a_ldc dX6_checkKey_5 cn_X6_231 ?_
    refine a_icmp_le 20 dX6_checkKey_7 (by decide) (fun c7 => ?_) (fun c7 => ?_)
    · refine a_vret rfl dX6_checkKey_20 (by decide) (by decide) ?_
      exact ⟨by simp [gKy, c1, c7], rfl⟩
    · refine a_throw hl tw_54 tx_X6_232 rfl dX6_checkKey_10 dX6_checkKey_13 dX6_checkKey_14 dX6_checkKey_16 dX6_checkKey_19 ⟨Nat.le_of_ble_eq_true rfl, Nat.le_of_ble_eq_true rfl⟩ (Nat.le_of_ble_eq_true rfl) (Nat.le_of_ble_eq_true rfl) ?_
      exact ⟨by simp [gKy, c7], rfl⟩
theorem c_X6_checkServer (hl : l.stackTraces = false) (s : Int32) : aMt l X mX6_checkServer [0] [.ref 0, .int s] (aPT t b k y) (fun o h' => o = (if fHs (cS t).1 s then .inl none else .inr IAE) ∧ h' = aPT t b k y) := by
  refine aMt.of (by decide) rfl (Nat.le_of_ble_eq_true rfl) ?_
  refine a_aload_n dX6_checkServer_0 rfl ?_
  refine a_get fl_X6_10 dX6_checkServer_1 rfl rfl ?_
  refine a_iload_n dX6_checkServer_4 rfl ?_
  refine a_ViR [1, 2, 3, 4, 5] k_X6_checkServer_234 (c_X0_has (nm := (cS t).1) (wt := (cS t).2.1) (up := (cS t).2.2.1) (ld := (cS t).2.2.2.1) s) dX6_checkServer_5 rfl rfl rfl rfl rfl rfl (Nat.le_of_ble_eq_true rfl) ⟨Nat.le_of_ble_eq_true rfl, Nat.le_of_ble_eq_true rfl⟩ ⟨rfl, rfl⟩ ?_
  refine a_if_ne 21 dX6_checkServer_8 (by decide) (fun c8 => ?_) (fun c8 => ?_)
  · refine a_vret rfl dX6_checkServer_21 (by decide) (by decide) ?_
    exact ⟨by simp [bI_1 c8], rfl⟩
  · refine a_throw hl tw_54 tx_X6_237 rfl dX6_checkServer_11 dX6_checkServer_14 dX6_checkServer_15 dX6_checkServer_17 dX6_checkServer_20 ⟨Nat.le_of_ble_eq_true rfl, Nat.le_of_ble_eq_true rfl⟩ (Nat.le_of_ble_eq_true rfl) (Nat.le_of_ble_eq_true rfl) ?_
    exact ⟨by simp [bI_0 c8], rfl⟩
theorem c_X6_checkEntry (hl : l.stackTraces = false) (s : Int32) : aMt l X mX6_checkEntry [0] [.ref 0, .int s] (aPT t b k y) (fun o h' => o = (if tHs k.2 s then .inl none else .inr IOE) ∧ h' = aPT t b k y) := by
  refine aMt.of (by decide) rfl (Nat.le_of_ble_eq_true rfl) ?_
  refine a_aload_n dX6_checkEntry_0 rfl ?_
  refine a_get fl_X6_35 dX6_checkEntry_1 rfl rfl ?_
  refine a_iload_n dX6_checkEntry_4 rfl ?_
  refine a_ViR [13, 14, 15, 16] k_X6_checkEntry_239 (c_X5_has (tk := k.1.1) (tc := k.1.2.1) (te := k.1.2.2) (m := k.2) s) dX6_checkEntry_5 rfl rfl rfl rfl rfl rfl (Nat.le_of_ble_eq_true rfl) ⟨Nat.le_of_ble_eq_true rfl, Nat.le_of_ble_eq_true rfl⟩ ⟨rfl, rfl⟩ ?_
  refine a_if_ne 21 dX6_checkEntry_8 (by decide) (fun c8 => ?_) (fun c8 => ?_)
  · refine a_vret rfl dX6_checkEntry_21 (by decide) (by decide) ?_
    exact ⟨by simp [bI_1 c8], rfl⟩
  · refine a_throw hl tw_186 tx_X6_240 rfl dX6_checkEntry_11 dX6_checkEntry_14 dX6_checkEntry_15 dX6_checkEntry_17 dX6_checkEntry_20 ⟨Nat.le_of_ble_eq_true rfl, Nat.le_of_ble_eq_true rfl⟩ (Nat.le_of_ble_eq_true rfl) (Nat.le_of_ble_eq_true rfl) ?_
    exact ⟨by simp [bI_0 c8], rfl⟩
/-- the server of a pinned key, and whether there is room for a pin -/
abbrev pKy (t : fT) (key : Int32) : Int32 := pSv t.2.2.2.2.1 t.2.2.2.2.2.1 key t.2.2.2.2.2.2
def gRm (t : fT) (key : Int32) : Bool := decide (¬ pKy t key = -1) || decide (nI t.2.2.2.2.2.2 < 6)
theorem c_X6_checkRoomForPin (hl : l.stackTraces = false) (hm : t.2.2.2.2.2.2 ≤ 6) (key : Int32) : aMt l X mX6_checkRoomForPin [0] [.ref 0, .int key] (aPT t b k y) (fun o h' => o = (if gRm t key then .inl none else .inr ISE) ∧ h' = aPT t b k y) := by
  refine aMt.of (by decide) rfl (Nat.le_of_ble_eq_true rfl) ?_
  refine a_aload_n dX6_checkRoomForPin_0 rfl ?_
  refine a_get fl_X6_19 dX6_checkRoomForPin_1 rfl rfl ?_
  refine a_iload_n dX6_checkRoomForPin_4 rfl ?_
  refine a_ViR [6, 7, 8] k_X6_checkRoomForPin_196 (c_X2_server (pk := t.2.2.2.2.1) (ps := t.2.2.2.2.2.1) hm key) dX6_checkRoomForPin_5 rfl rfl rfl rfl rfl rfl (Nat.le_of_ble_eq_true rfl) ⟨Nat.le_of_ble_eq_true rfl, Nat.le_of_ble_eq_true rfl⟩ ⟨rfl, rfl⟩ ?_
  refine a_iconst (-1) dX6_checkRoomForPin_8 (by decide) ?_
  refine a_icmp_ne 34 dX6_checkRoomForPin_9 (by decide) (fun c9 => ?_) (fun c9 => ?_)
  · refine a_vret rfl dX6_checkRoomForPin_34 (by decide) (by decide) ?_
    exact ⟨by simp [gRm, c9], rfl⟩
  · refine a_aload_n dX6_checkRoomForPin_12 rfl ?_
    refine a_get fl_X6_19 dX6_checkRoomForPin_13 rfl rfl ?_
    refine a_ViR [6, 7, 8] k_X6_checkRoomForPin_195 (c_X2_size (pk := t.2.2.2.2.1) (ps := t.2.2.2.2.2.1) (m := t.2.2.2.2.2.2)) dX6_checkRoomForPin_16 rfl rfl rfl rfl rfl rfl (Nat.le_of_ble_eq_true rfl) ⟨Nat.le_of_ble_eq_true rfl, Nat.le_of_ble_eq_true rfl⟩ ⟨rfl, rfl⟩ ?_
    refine a_bipush 6 dX6_checkRoomForPin_19 (by decide) ?_
    refine a_icmp_lt 34 dX6_checkRoomForPin_21 (by decide) (fun c21 => ?_) (fun c21 => ?_)
    · refine a_vret rfl dX6_checkRoomForPin_34 (by decide) (by decide) ?_
      exact ⟨by simp [gRm, c21], rfl⟩
    · refine a_throw hl tw_105 tx_X6_242 rfl dX6_checkRoomForPin_24 dX6_checkRoomForPin_27 dX6_checkRoomForPin_28 dX6_checkRoomForPin_30 dX6_checkRoomForPin_33 ⟨Nat.le_of_ble_eq_true rfl, Nat.le_of_ble_eq_true rfl⟩ (Nat.le_of_ble_eq_true rfl) (Nat.le_of_ble_eq_true rfl) ?_
      exact ⟨by simp [gRm, c9, c21], rfl⟩
end PT1
end
section
/-! written by wip/whole/pp.py out of wip/whole/src/23.pt2.lean -/

/-! ===== PreferenceTable: states in whole numbers ===== -/
def dUp {α : Type} (T : Nat → α) (s : Nat) (x : α) : Nat → α := fun j => if j = s then x else T j
theorem upd_N {A : Nat → Nat} {i n : Nat} : upd (fun j => nI (A j)) i (nI n) = fun j => nI (dUp A i n j) := by
  funext j; simp only [upd, dUp]; split <;> rfl
theorem upd_B {U : Nat → Bool} {i : Nat} {b : Bool} : upd (fun j => bI (U j)) i (bI b) = fun j => bI (dUp U i b j) := by
  funext j; simp only [upd, dUp]; split <;> rfl
theorem fFl_N {A B : Nat → Nat} {n : Nat} : fFl n (fun j => nI (A j)) (fun j => nI (B j)) = fun j => nI (fFl n A B j) := by
  funext j; simp only [fFl]; split <;> rfl
theorem fFl_B {A B : Nat → Bool} {n : Nat} : fFl n (fun j => bI (A j)) (fun j => bI (B j)) = fun j => bI (fFl n A B j) := by
  funext j; simp only [fFl]; split <;> rfl
def sCN (s t : fT) : fT := (fFl 10 s.1 t.1, fFl 10 s.2.1 t.2.1, fFl 10 s.2.2.1 t.2.2.1, fFl 10 s.2.2.2.1 t.2.2.2.1, fFl 6 s.2.2.2.2.1 t.2.2.2.2.1, fFl 6 s.2.2.2.2.2.1 t.2.2.2.2.2.1, s.2.2.2.2.2.2)
theorem sCp_N (s t : fT) : sCp (cS s) (cS t) = cS (sCN s t) := by
  simp only [sCp, cS, sCN, fFl_N, fFl_B]
theorem sBo_c (s : fT) : sBo (cS s) := fun j _ => bI_vp _
def fOk (t : fT) : Prop := (∀ j, j < 10 → t.1 j ≤ 9999) ∧ (∀ j, j < 10 → t.2.1 j ≤ 16) ∧ t.2.2.2.2.2.2 ≤ 6
def bOk (b : bT) : Prop := 5 ≤ b.1 ∧ b.1 ≤ 61
def gW (t : fT) (lo : Int32) : Nat := aLp (fun j c => if dOn (cS t).1 (cS t).2.2.1 lo j then (if c < t.2.1 j then t.2.1 j else c) else c) 10 0 0
theorem gW_N {t : fT} (hW : ∀ j, j < 10 → t.2.1 j ≤ 16) (lo : Int32) : fGw (cS t).1 (cS t).2.1 (cS t).2.2.1 lo = nI (gW t lo) ∧ gW t lo ≤ 16 := by
  have key : ∀ (k j a : Nat), j + k = 10 → a ≤ 16 → aLp (fun j c => if decide (¬ nI j = lo) && fUp (cS t).1 (cS t).2.2.1 (nI j) then (if c < (cS t).2.1 j then (cS t).2.1 j else c) else c) k j (nI a) = nI (aLp (fun j c => if dOn (cS t).1 (cS t).2.2.1 lo j then (if c < t.2.1 j then t.2.1 j else c) else c) k j a) ∧ aLp (fun j c => if dOn (cS t).1 (cS t).2.2.1 lo j then (if c < t.2.1 j then t.2.1 j else c) else c) k j a ≤ 16 := by
    intro k
    induction k with
    | zero => intro j a _ ha; exact ⟨rfl, ha⟩
    | succ k ih =>
      intro j a hj ha
      have hw := hW j (by omega)
      have he : (if decide (¬ nI j = lo) && fUp (cS t).1 (cS t).2.2.1 (nI j) then (if nI a < (cS t).2.1 j then (cS t).2.1 j else nI a) else nI a) = nI (if dOn (cS t).1 (cS t).2.2.1 lo j then (if a < t.2.1 j then t.2.1 j else a) else a) := by
        show (if dOn (cS t).1 (cS t).2.2.1 lo j then (if nI a < nI (t.2.1 j) then nI (t.2.1 j) else nI a) else nI a) = _
        by_cases h1 : dOn (cS t).1 (cS t).2.2.1 lo j = true
        · rw [if_pos h1, if_pos h1]
          by_cases h2 : a < t.2.1 j
          · rw [if_pos h2, if_pos (nI_lt h2 (by omega))]
          · rw [if_neg h2, if_neg (nI_nlt (by omega) (by omega))]
        · rw [if_neg h1, if_neg h1]
      have hb : (if dOn (cS t).1 (cS t).2.2.1 lo j then (if a < t.2.1 j then t.2.1 j else a) else a) ≤ 16 := by
        split
        · split
          · exact hw
          · exact ha
        · exact ha
      have := ih (j + 1) (if dOn (cS t).1 (cS t).2.2.1 lo j then (if a < t.2.1 j then t.2.1 j else a) else a) (by omega) hb
      rw [← he] at this
      exact this
  exact key 10 0 0 rfl (by omega)
/-- the table built anew: for all servers that are up but lo -/
def nDr (t : fT) (b : bT) (lo : Int32) : dT := dDr b.1 t.1 t.2.1 (cS t).1 (cS t).2.2.1 lo (gW t lo) b.2.2.1 b.2.2.2.1
def bRb (t : fT) (b : bT) : bT := (b.1, (nDr t b (-1)).1, b.2.1, (nDr t b (-1)).2.1, sCc b.2.1 (nDr t b (-1)).1 b.1, sCf b.2.1 (cS t).1 (cS t).2.2.1 b.1)
def bWo (t : fT) (b : bT) (lo : Int32) : bT := (b.1, b.2.1, (nDr t b lo).1, (nDr t b lo).2.1, b.2.2.2.2.1, b.2.2.2.2.2)
/-- servers changed -/
def fPut (t : fT) (i n w : Nat) : fT := (dUp t.1 i n, dUp t.2.1 i w, dUp t.2.2.1 i true, vp_updL t.2.2.2.1 i 0, t.2.2.2.2)
def fDrp (t : fT) (i : Nat) : fT := (dUp t.1 i 0, t.2)
def fSwt (t : fT) (i w : Nat) : fT := (t.1, dUp t.2.1 i w, t.2.2)
def fSup (t : fT) (i : Nat) (b : Bool) : fT := (t.1, t.2.1, dUp t.2.2.1 i b, t.2.2.2)
def fAld (t : fT) (s n : Int32) : fT := (t.1, t.2.1, t.2.2.1, (if fHs (cS t).1 s then vp_updL t.2.2.2.1 s.toNatClampNeg (t.2.2.2.1 s.toNatClampNeg + n.toInt64) else t.2.2.2.1), t.2.2.2.2)
def fPin (t : fT) (p : pT) : fT := (t.1, t.2.1, t.2.2.1, t.2.2.2.1, p.1, p.2.1, p.2.2)
def fClr (t : fT) : fT := (fFl 10 (fun _ => 0) t.1, t.2.1, t.2.2.1, t.2.2.2.1, t.2.2.2.2.1, t.2.2.2.2.2.1, 0)
abbrev aFN (t : fT) : List aCell := aFt (cS t).1 (cS t).2.1 (cS t).2.2.1 (cS t).2.2.2.1
section PTN
variable {l : Launch} {X : aX} {t : fT}
theorem n_put (i n w : Nat) (hi : i < 10) : aWr l X mX0_put rs5 [.ref 0, .int (nI i), .int (nI n), .int (nI w)] (aFN t) none (aFN (fPut t i n w)) := by
  have := c_X0_put (l := l) (X := X) (nm := (cS t).1) (wt := (cS t).2.1) (up := (cS t).2.2.1) (ld := (cS t).2.2.2.1) (nI i) (nI n) (nI w) (fNm_j hi)
  rw [cl10 hi] at this
  simp only [cS] at this
  rw [upd_N, upd_N, show (1 : Int32) = bI true from rfl, upd_B] at this
  exact this
theorem n_drop (i : Nat) (hi : i < 10) : aWr l X mX0_drop rs5 [.ref 0, .int (nI i)] (aFN t) none (aFN (fDrp t i)) := by
  have := c_X0_drop (l := l) (X := X) (nm := (cS t).1) (wt := (cS t).2.1) (up := (cS t).2.2.1) (ld := (cS t).2.2.2.1) (nI i) (fNm_j hi)
  rw [cl10 hi] at this
  simp only [cS] at this
  rw [show (0 : Int32) = nI 0 from rfl, upd_N] at this
  exact this
theorem n_changeWeight (i w : Nat) (hi : i < 10) (hh : fHs (cS t).1 (nI i) = true) : aWr l X mX0_changeWeight rs5 [.ref 0, .int (nI i), .int (nI w)] (aFN t) none (aFN (fSwt t i w)) := by
  have := c_X0_changeWeight (l := l) (X := X) (nm := (cS t).1) (wt := (cS t).2.1) (up := (cS t).2.2.1) (ld := (cS t).2.2.2.1) (nI i) (nI w) hh
  rw [cl10 hi] at this
  simp only [cS] at this
  rw [upd_N] at this
  exact this
theorem n_changeUp (i : Nat) (b : Bool) (hi : i < 10) (hh : fHs (cS t).1 (nI i) = true) : aWr l X mX0_changeUp rs5 [.ref 0, .int (nI i), .int (bI b)] (aFN t) none (aFN (fSup t i b)) := by
  have := c_X0_changeUp (l := l) (X := X) (nm := (cS t).1) (wt := (cS t).2.1) (up := (cS t).2.2.1) (ld := (cS t).2.2.2.1) (nI i) b hh
  rw [cl10 hi] at this
  simp only [cS] at this
  rw [upd_B] at this
  exact this
theorem n_clear : aWr l X mX0_clear rs5 [.ref 0] (aFN t) none (aFN (fClr t)) := by
  have := c_X0_clear (l := l) (X := X) (nm := (cS t).1) (wt := (cS t).2.1) (up := (cS t).2.2.1) (ld := (cS t).2.2.2.1)
  simp only [cS] at this
  rw [show (fun _ : Nat => (0 : Int32)) = (fun j => nI ((fun _ => 0) j)) from rfl, fFl_N] at this
  exact this
abbrev aBF (b : bT) (t : fT) : List aCell := aSF b.1 b.2.1 b.2.2.1 b.2.2.2.1 b.2.2.2.2.1 b.2.2.2.2.2 (cS t).1 (cS t).2.1 (cS t).2.2.1 (cS t).2.2.2.1
theorem n_rebuild {b : bT} (ht : fOk t) (hb : bOk b) : aWr l X mX3_rebuild rsR [.ref 0, .ref 4] (aBF b t) none (aBF (bRb t b) t) :=
  c_X3_rebuild (A := t.1) (W := t.2.1) (by have := hb.1; omega) hb.2 (gW t (-1)) (gW_N ht.2.1 (-1)).1 (gW_N ht.2.1 (-1)).2 ht.1 ht.2.1 rfl
theorem n_changedWithout {b : bT} (ht : fOk t) (hb : bOk b) (lo : Int32) : aWr l X mX3_changedWithout rs9 [.ref 0, .ref 4, .int lo] (aBF b t) (some (.int (sCc b.2.1 (nDr t b lo).1 b.1))) (aBF (bWo t b lo) t) :=
  c_X3_changedWithout (A := t.1) (W := t.2.1) (by have := hb.1; omega) hb.2 lo (gW t lo) (gW_N ht.2.1 lo).1 (gW_N ht.2.1 lo).2 ht.1 ht.2.1 rfl
def yRm (t : fT) (y : hT) : hT := (if y.1 < 4 then y.1 + 1 else 4, sCN t y.2.2.2.2, y.2.1, y.2.2.1, y.2.2.2.1)
abbrev aYF (y : hT) (t : fT) : List aCell := aHi 0 y.1 (cS y.2.1) (cS y.2.2.1) (cS y.2.2.2.1) (cS y.2.2.2.2) ++ aFP 38 (cS t)
theorem n_remember {y : hT} (hy : y.1 ≤ 4) : aWr l X mX1_remember rsH [.ref 0, .ref 38, .ref 43] (aYF y t) none (aYF (yRm t y) t) := by
  have := c_X1_remember (l := l) (X := X) (z := y.1) (s0 := cS y.2.1) (s1 := cS y.2.2.1) (s2 := cS y.2.2.2.1) (s3 := cS y.2.2.2.2) (t := cS t) hy (sBo_c t)
  rw [sCp_N] at this
  exact this
def yBk (y : hT) : hT := (y.1 - 1, y.2.2.1, y.2.2.2.1, y.2.2.2.2, y.2.1)
theorem n_bringBack {y : hT} (h0 : 0 < y.1) (hy : y.1 ≤ 4) : aWr l X mX1_bringBack rsH [.ref 0, .ref 38, .ref 43] (aYF y t) none (aYF (yBk y) (sCN y.2.1 t)) := by
  have := c_X1_bringBack (l := l) (X := X) (z := y.1) (s0 := cS y.2.1) (s1 := cS y.2.2.1) (s2 := cS y.2.2.2.1) (s3 := cS y.2.2.2.2) (t := cS t) h0 hy (sBo_c _)
  rw [sCp_N] at this
  exact this
end PTN
end
section
/-! written by wip/whole/pp.py out of wip/whole/src/24.pt3.lean -/
theorem dX6_serverAt_0 : decode cX6_serverAt 0 = .ok (.aload_n 0, 1) := by decide +kernel
theorem dX6_serverAt_1 : decode cX6_serverAt 1 = .ok (.getfield 28, 3) := by decide +kernel
theorem dX6_serverAt_4 : decode cX6_serverAt 4 = .ok (.iload_n 1, 1) := by decide +kernel
theorem dX6_serverAt_5 : decode cX6_serverAt 5 = .ok (.invokevirtual 70, 3) := by decide +kernel
theorem dX6_serverAt_8 : decode cX6_serverAt 8 = .ok (.ifCond .ne 13, 3) := by decide +kernel
theorem dX6_serverAt_11 : decode cX6_serverAt 11 = .ok (.new 50, 3) := by decide +kernel
theorem dX6_serverAt_14 : decode cX6_serverAt 14 = .ok (.dup, 1) := by decide +kernel
theorem dX6_serverAt_15 : decode cX6_serverAt 15 = .ok (.ldc 73, 2) := by decide +kernel
theorem dX6_serverAt_17 : decode cX6_serverAt 17 = .ok (.invokespecial 54, 3) := by decide +kernel
theorem dX6_serverAt_20 : decode cX6_serverAt 20 = .ok (.athrow, 1) := by decide +kernel
theorem dX6_serverAt_21 : decode cX6_serverAt 21 = .ok (.aload_n 0, 1) := by decide +kernel
theorem dX6_serverAt_22 : decode cX6_serverAt 22 = .ok (.getfield 28, 3) := by decide +kernel
theorem dX6_serverAt_25 : decode cX6_serverAt 25 = .ok (.iload_n 1, 1) := by decide +kernel
theorem dX6_serverAt_26 : decode cX6_serverAt 26 = .ok (.invokevirtual 75, 3) := by decide +kernel
theorem dX6_serverAt_29 : decode cX6_serverAt 29 = .ok (.ireturn, 1) := by decide +kernel
theorem dX6_disruption_0 : decode cX6_disruption 0 = .ok (.aload_n 0, 1) := by decide +kernel
theorem dX6_disruption_1 : decode cX6_disruption 1 = .ok (.getfield 28, 3) := by decide +kernel
theorem dX6_disruption_4 : decode cX6_disruption 4 = .ok (.invokevirtual 79, 3) := by decide +kernel
theorem dX6_disruption_7 : decode cX6_disruption 7 = .ok (.ireturn, 1) := by decide +kernel
theorem dX6_forcedDisruption_0 : decode cX6_forcedDisruption 0 = .ok (.aload_n 0, 1) := by decide +kernel
theorem dX6_forcedDisruption_1 : decode cX6_forcedDisruption 1 = .ok (.getfield 28, 3) := by decide +kernel
theorem dX6_forcedDisruption_4 : decode cX6_forcedDisruption 4 = .ok (.invokevirtual 82, 3) := by decide +kernel
theorem dX6_forcedDisruption_7 : decode cX6_forcedDisruption 7 = .ok (.ireturn, 1) := by decide +kernel
theorem dX6_serverCount_0 : decode cX6_serverCount 0 = .ok (.aload_n 0, 1) := by decide +kernel
theorem dX6_serverCount_1 : decode cX6_serverCount 1 = .ok (.getfield 10, 3) := by decide +kernel
theorem dX6_serverCount_4 : decode cX6_serverCount 4 = .ok (.invokevirtual 150, 3) := by decide +kernel
theorem dX6_serverCount_7 : decode cX6_serverCount 7 = .ok (.ireturn, 1) := by decide +kernel
theorem dX6_serverNamed_0 : decode cX6_serverNamed 0 = .ok (.iload_n 1, 1) := by decide +kernel
theorem dX6_serverNamed_1 : decode cX6_serverNamed 1 = .ok (.invokestatic 92, 3) := by decide +kernel
theorem dX6_serverNamed_4 : decode cX6_serverNamed 4 = .ok (.aload_n 0, 1) := by decide +kernel
theorem dX6_serverNamed_5 : decode cX6_serverNamed 5 = .ok (.getfield 10, 3) := by decide +kernel
theorem dX6_serverNamed_8 : decode cX6_serverNamed 8 = .ok (.iload_n 1, 1) := by decide +kernel
theorem dX6_serverNamed_9 : decode cX6_serverNamed 9 = .ok (.invokevirtual 98, 3) := by decide +kernel
theorem dX6_serverNamed_12 : decode cX6_serverNamed 12 = .ok (.ireturn, 1) := by decide +kernel
theorem dX6_preference_0 : decode cX6_preference 0 = .ok (.aload_n 0, 1) := by decide +kernel
theorem dX6_preference_1 : decode cX6_preference 1 = .ok (.iload_n 1, 1) := by decide +kernel
theorem dX6_preference_2 : decode cX6_preference 2 = .ok (.invokevirtual 123, 3) := by decide +kernel
theorem dX6_preference_5 : decode cX6_preference 5 = .ok (.aload_n 0, 1) := by decide +kernel
theorem dX6_preference_6 : decode cX6_preference 6 = .ok (.getfield 28, 3) := by decide +kernel
theorem dX6_preference_9 : decode cX6_preference 9 = .ok (.iload_n 2, 1) := by decide +kernel
theorem dX6_preference_10 : decode cX6_preference 10 = .ok (.invokevirtual 70, 3) := by decide +kernel
theorem dX6_preference_13 : decode cX6_preference 13 = .ok (.ifCond .ne 13, 3) := by decide +kernel
theorem dX6_preference_16 : decode cX6_preference 16 = .ok (.new 50, 3) := by decide +kernel
theorem dX6_preference_19 : decode cX6_preference 19 = .ok (.dup, 1) := by decide +kernel
theorem dX6_preference_20 : decode cX6_preference 20 = .ok (.ldc 151, 2) := by decide +kernel
theorem dX6_preference_22 : decode cX6_preference 22 = .ok (.invokespecial 54, 3) := by decide +kernel
theorem dX6_preference_25 : decode cX6_preference 25 = .ok (.athrow, 1) := by decide +kernel
theorem dX6_preference_26 : decode cX6_preference 26 = .ok (.aload_n 0, 1) := by decide +kernel
theorem dX6_preference_27 : decode cX6_preference 27 = .ok (.getfield 28, 3) := by decide +kernel
theorem dX6_preference_30 : decode cX6_preference 30 = .ok (.aload_n 0, 1) := by decide +kernel
theorem dX6_preference_31 : decode cX6_preference 31 = .ok (.getfield 10, 3) := by decide +kernel
theorem dX6_preference_34 : decode cX6_preference 34 = .ok (.iload_n 1, 1) := by decide +kernel
theorem dX6_preference_35 : decode cX6_preference 35 = .ok (.invokevirtual 153, 3) := by decide +kernel
theorem dX6_preference_38 : decode cX6_preference 38 = .ok (.iload_n 2, 1) := by decide +kernel
theorem dX6_preference_39 : decode cX6_preference 39 = .ok (.invokevirtual 156, 3) := by decide +kernel
theorem dX6_preference_42 : decode cX6_preference 42 = .ok (.ireturn, 1) := by decide +kernel
theorem dX6_slotsOf_0 : decode cX6_slotsOf 0 = .ok (.aload_n 0, 1) := by decide +kernel
theorem dX6_slotsOf_1 : decode cX6_slotsOf 1 = .ok (.iload_n 1, 1) := by decide +kernel
theorem dX6_slotsOf_2 : decode cX6_slotsOf 2 = .ok (.invokevirtual 123, 3) := by decide +kernel
theorem dX6_slotsOf_5 : decode cX6_slotsOf 5 = .ok (.aload_n 0, 1) := by decide +kernel
theorem dX6_slotsOf_6 : decode cX6_slotsOf 6 = .ok (.getfield 28, 3) := by decide +kernel
theorem dX6_slotsOf_9 : decode cX6_slotsOf 9 = .ok (.iload_n 1, 1) := by decide +kernel
theorem dX6_slotsOf_10 : decode cX6_slotsOf 10 = .ok (.invokevirtual 89, 3) := by decide +kernel
theorem dX6_slotsOf_13 : decode cX6_slotsOf 13 = .ok (.ireturn, 1) := by decide +kernel
theorem dX6_removalDisruption_0 : decode cX6_removalDisruption 0 = .ok (.aload_n 0, 1) := by decide +kernel
theorem dX6_removalDisruption_1 : decode cX6_removalDisruption 1 = .ok (.iload_n 1, 1) := by decide +kernel
theorem dX6_removalDisruption_2 : decode cX6_removalDisruption 2 = .ok (.invokevirtual 123, 3) := by decide +kernel
theorem dX6_removalDisruption_5 : decode cX6_removalDisruption 5 = .ok (.aload_n 0, 1) := by decide +kernel
theorem dX6_removalDisruption_6 : decode cX6_removalDisruption 6 = .ok (.getfield 28, 3) := by decide +kernel
theorem dX6_removalDisruption_9 : decode cX6_removalDisruption 9 = .ok (.aload_n 0, 1) := by decide +kernel
theorem dX6_removalDisruption_10 : decode cX6_removalDisruption 10 = .ok (.getfield 10, 3) := by decide +kernel
theorem dX6_removalDisruption_13 : decode cX6_removalDisruption 13 = .ok (.iload_n 1, 1) := by decide +kernel
theorem dX6_removalDisruption_14 : decode cX6_removalDisruption 14 = .ok (.invokevirtual 160, 3) := by decide +kernel
theorem dX6_removalDisruption_17 : decode cX6_removalDisruption 17 = .ok (.ireturn, 1) := by decide +kernel
theorem dX6_loadOf_0 : decode cX6_loadOf 0 = .ok (.aload_n 0, 1) := by decide +kernel
theorem dX6_loadOf_1 : decode cX6_loadOf 1 = .ok (.iload_n 1, 1) := by decide +kernel
theorem dX6_loadOf_2 : decode cX6_loadOf 2 = .ok (.invokevirtual 123, 3) := by decide +kernel
theorem dX6_loadOf_5 : decode cX6_loadOf 5 = .ok (.aload_n 0, 1) := by decide +kernel
theorem dX6_loadOf_6 : decode cX6_loadOf 6 = .ok (.getfield 10, 3) := by decide +kernel
theorem dX6_loadOf_9 : decode cX6_loadOf 9 = .ok (.iload_n 1, 1) := by decide +kernel
theorem dX6_loadOf_10 : decode cX6_loadOf 10 = .ok (.invokevirtual 126, 3) := by decide +kernel
theorem dX6_loadOf_13 : decode cX6_loadOf 13 = .ok (.lreturn, 1) := by decide +kernel
theorem dX6_rankedServer_0 : decode cX6_rankedServer 0 = .ok (.iload_n 1, 1) := by decide +kernel
theorem dX6_rankedServer_1 : decode cX6_rankedServer 1 = .ok (.ifCond .lt 14, 3) := by decide +kernel
theorem dX6_rankedServer_4 : decode cX6_rankedServer 4 = .ok (.iload_n 1, 1) := by decide +kernel
theorem dX6_rankedServer_5 : decode cX6_rankedServer 5 = .ok (.aload_n 0, 1) := by decide +kernel
theorem dX6_rankedServer_6 : decode cX6_rankedServer 6 = .ok (.getfield 10, 3) := by decide +kernel
theorem dX6_rankedServer_9 : decode cX6_rankedServer 9 = .ok (.invokevirtual 179, 3) := by decide +kernel
theorem dX6_rankedServer_12 : decode cX6_rankedServer 12 = .ok (.if_icmp .lt 13, 3) := by decide +kernel
theorem dX6_rankedServer_15 : decode cX6_rankedServer 15 = .ok (.new 182, 3) := by decide +kernel
theorem dX6_rankedServer_18 : decode cX6_rankedServer 18 = .ok (.dup, 1) := by decide +kernel
theorem dX6_rankedServer_19 : decode cX6_rankedServer 19 = .ok (.ldc 184, 2) := by decide +kernel
theorem dX6_rankedServer_21 : decode cX6_rankedServer 21 = .ok (.invokespecial 186, 3) := by decide +kernel
theorem dX6_rankedServer_24 : decode cX6_rankedServer 24 = .ok (.athrow, 1) := by decide +kernel
theorem dX6_rankedServer_25 : decode cX6_rankedServer 25 = .ok (.aload_n 0, 1) := by decide +kernel
theorem dX6_rankedServer_26 : decode cX6_rankedServer 26 = .ok (.getfield 10, 3) := by decide +kernel
theorem dX6_rankedServer_29 : decode cX6_rankedServer 29 = .ok (.iload_n 1, 1) := by decide +kernel
theorem dX6_rankedServer_30 : decode cX6_rankedServer 30 = .ok (.invokevirtual 187, 3) := by decide +kernel
theorem dX6_rankedServer_33 : decode cX6_rankedServer 33 = .ok (.ireturn, 1) := by decide +kernel
theorem dX6_trackedKeys_0 : decode cX6_trackedKeys 0 = .ok (.aload_n 0, 1) := by decide +kernel
theorem dX6_trackedKeys_1 : decode cX6_trackedKeys 1 = .ok (.getfield 35, 3) := by decide +kernel
theorem dX6_trackedKeys_4 : decode cX6_trackedKeys 4 = .ok (.invokevirtual 200, 3) := by decide +kernel
theorem dX6_trackedKeys_7 : decode cX6_trackedKeys 7 = .ok (.ireturn, 1) := by decide +kernel
theorem dX6_hotKey_0 : decode cX6_hotKey 0 = .ok (.aload_n 0, 1) := by decide +kernel
theorem dX6_hotKey_1 : decode cX6_hotKey 1 = .ok (.iload_n 1, 1) := by decide +kernel
theorem dX6_hotKey_2 : decode cX6_hotKey 2 = .ok (.invokevirtual 208, 3) := by decide +kernel
theorem dX6_hotKey_5 : decode cX6_hotKey 5 = .ok (.aload_n 0, 1) := by decide +kernel
theorem dX6_hotKey_6 : decode cX6_hotKey 6 = .ok (.getfield 35, 3) := by decide +kernel
theorem dX6_hotKey_9 : decode cX6_hotKey 9 = .ok (.iload_n 1, 1) := by decide +kernel
theorem dX6_hotKey_10 : decode cX6_hotKey 10 = .ok (.invokevirtual 205, 3) := by decide +kernel
theorem dX6_hotKey_13 : decode cX6_hotKey 13 = .ok (.ireturn, 1) := by decide +kernel
theorem dX6_hotCount_0 : decode cX6_hotCount 0 = .ok (.aload_n 0, 1) := by decide +kernel
theorem dX6_hotCount_1 : decode cX6_hotCount 1 = .ok (.iload_n 1, 1) := by decide +kernel
theorem dX6_hotCount_2 : decode cX6_hotCount 2 = .ok (.invokevirtual 208, 3) := by decide +kernel
theorem dX6_hotCount_5 : decode cX6_hotCount 5 = .ok (.aload_n 0, 1) := by decide +kernel
theorem dX6_hotCount_6 : decode cX6_hotCount 6 = .ok (.getfield 35, 3) := by decide +kernel
theorem dX6_hotCount_9 : decode cX6_hotCount 9 = .ok (.iload_n 1, 1) := by decide +kernel
theorem dX6_hotCount_10 : decode cX6_hotCount 10 = .ok (.invokevirtual 211, 3) := by decide +kernel
theorem dX6_hotCount_13 : decode cX6_hotCount 13 = .ok (.lreturn, 1) := by decide +kernel
theorem dX6_hotError_0 : decode cX6_hotError 0 = .ok (.aload_n 0, 1) := by decide +kernel
theorem dX6_hotError_1 : decode cX6_hotError 1 = .ok (.iload_n 1, 1) := by decide +kernel
theorem dX6_hotError_2 : decode cX6_hotError 2 = .ok (.invokevirtual 208, 3) := by decide +kernel
theorem dX6_hotError_5 : decode cX6_hotError 5 = .ok (.aload_n 0, 1) := by decide +kernel
theorem dX6_hotError_6 : decode cX6_hotError 6 = .ok (.getfield 35, 3) := by decide +kernel
theorem dX6_hotError_9 : decode cX6_hotError 9 = .ok (.iload_n 1, 1) := by decide +kernel
theorem dX6_hotError_10 : decode cX6_hotError 10 = .ok (.invokevirtual 214, 3) := by decide +kernel
theorem dX6_hotError_13 : decode cX6_hotError 13 = .ok (.lreturn, 1) := by decide +kernel
theorem dX6_isSlotCount_0 : decode cX6_isSlotCount 0 = .ok (.getstatic 223, 3) := by decide +kernel
theorem dX6_isSlotCount_3 : decode cX6_isSlotCount 3 = .ok (.astore_n 1, 1) := by decide +kernel
theorem dX6_isSlotCount_4 : decode cX6_isSlotCount 4 = .ok (.aload_n 1, 1) := by decide +kernel
theorem dX6_isSlotCount_5 : decode cX6_isSlotCount 5 = .ok (.arraylength, 1) := by decide +kernel
theorem dX6_isSlotCount_6 : decode cX6_isSlotCount 6 = .ok (.istore_n 2, 1) := by decide +kernel
theorem dX6_isSlotCount_7 : decode cX6_isSlotCount 7 = .ok (.iconst 0, 1) := by decide +kernel
theorem dX6_isSlotCount_8 : decode cX6_isSlotCount 8 = .ok (.istore_n 3, 1) := by decide +kernel
theorem dX6_isSlotCount_9 : decode cX6_isSlotCount 9 = .ok (.iload_n 3, 1) := by decide +kernel
theorem dX6_isSlotCount_10 : decode cX6_isSlotCount 10 = .ok (.iload_n 2, 1) := by decide +kernel
theorem dX6_isSlotCount_11 : decode cX6_isSlotCount 11 = .ok (.if_icmp .ge 22, 3) := by decide +kernel
theorem dX6_isSlotCount_14 : decode cX6_isSlotCount 14 = .ok (.aload_n 1, 1) := by decide +kernel
theorem dX6_isSlotCount_15 : decode cX6_isSlotCount 15 = .ok (.iload_n 3, 1) := by decide +kernel
theorem dX6_isSlotCount_16 : decode cX6_isSlotCount 16 = .ok (.iaload, 1) := by decide +kernel
theorem dX6_isSlotCount_17 : decode cX6_isSlotCount 17 = .ok (.istore 4, 2) := by decide +kernel
theorem dX6_isSlotCount_19 : decode cX6_isSlotCount 19 = .ok (.iload 4, 2) := by decide +kernel
theorem dX6_isSlotCount_21 : decode cX6_isSlotCount 21 = .ok (.iload_n 0, 1) := by decide +kernel
theorem dX6_isSlotCount_22 : decode cX6_isSlotCount 22 = .ok (.if_icmp .ne 5, 3) := by decide +kernel
theorem dX6_isSlotCount_25 : decode cX6_isSlotCount 25 = .ok (.iconst 1, 1) := by decide +kernel
theorem dX6_isSlotCount_26 : decode cX6_isSlotCount 26 = .ok (.ireturn, 1) := by decide +kernel
theorem dX6_isSlotCount_27 : decode cX6_isSlotCount 27 = .ok (.iinc 3 1, 3) := by decide +kernel
theorem dX6_isSlotCount_30 : decode cX6_isSlotCount 30 = .ok (.goto (-21), 3) := by decide +kernel
theorem dX6_isSlotCount_33 : decode cX6_isSlotCount 33 = .ok (.iconst 0, 1) := by decide +kernel
theorem dX6_isSlotCount_34 : decode cX6_isSlotCount 34 = .ok (.ireturn, 1) := by decide +kernel
theorem k_X6_disruption_79 : aKV mX6_disruption mX3_changedSlots 79 0 3 := ⟨cb_X3_changedSlots, rfl, ml_X6_79, iv_X3_changedSlots, sl_X3_changedSlots, ⟨_, _, rfl⟩, ⟨Nat.le_of_ble_eq_true rfl, Nat.le_of_ble_eq_true rfl⟩⟩
theorem k_X6_forcedDisruption_82 : aKV mX6_forcedDisruption mX3_forcedSlots 82 0 3 := ⟨cb_X3_forcedSlots, rfl, ml_X6_82, iv_X3_forcedSlots, sl_X3_forcedSlots, ⟨_, _, rfl⟩, ⟨Nat.le_of_ble_eq_true rfl, Nat.le_of_ble_eq_true rfl⟩⟩
theorem k_X6_serverCount_150 : aKV mX6_serverCount mX0_size 150 0 0 := ⟨cb_X0_size, rfl, ml_X6_150, iv_X0_size, sl_X0_size, ⟨_, _, rfl⟩, ⟨Nat.le_of_ble_eq_true rfl, Nat.le_of_ble_eq_true rfl⟩⟩
theorem k_X6_trackedKeys_200 : aKV mX6_trackedKeys mX5_size 200 0 5 := ⟨cb_X5_size, rfl, ml_X6_200, iv_X5_size, sl_X5_size, ⟨_, _, rfl⟩, ⟨Nat.le_of_ble_eq_true rfl, Nat.le_of_ble_eq_true rfl⟩⟩
theorem k_X6_serverAt_70 : aKV mX6_serverAt mX3_isSlot 70 1 3 := ⟨cb_X3_isSlot, rfl, ml_X6_70, iv_X3_isSlot, sl_X3_isSlot, ⟨_, _, rfl⟩, ⟨Nat.le_of_ble_eq_true rfl, Nat.le_of_ble_eq_true rfl⟩⟩
theorem k_X6_serverAt_75 : aKV mX6_serverAt mX3_owner 75 1 3 := ⟨cb_X3_owner, rfl, ml_X6_75, iv_X3_owner, sl_X3_owner, ⟨_, _, rfl⟩, ⟨Nat.le_of_ble_eq_true rfl, Nat.le_of_ble_eq_true rfl⟩⟩
theorem k_X6_serverNamed_92 : aKS mX6_serverNamed mX6_checkName 92 1 := ⟨cb_X6_checkName, rfl, ml_X6_92, st_X6_checkName, ⟨Nat.le_of_ble_eq_true rfl, Nat.le_of_ble_eq_true rfl⟩⟩
theorem k_X6_serverNamed_98 : aKV mX6_serverNamed mX0_find 98 1 0 := ⟨cb_X0_find, rfl, ml_X6_98, iv_X0_find, sl_X0_find, ⟨_, _, rfl⟩, ⟨Nat.le_of_ble_eq_true rfl, Nat.le_of_ble_eq_true rfl⟩⟩
theorem k_X6_slotsOf_123 : aKV mX6_slotsOf mX6_checkServer 123 1 6 := ⟨cb_X6_checkServer, rfl, ml_X6_123, iv_X6_checkServer, sl_X6_checkServer, ⟨_, _, rfl⟩, ⟨Nat.le_of_ble_eq_true rfl, Nat.le_of_ble_eq_true rfl⟩⟩
theorem k_X6_slotsOf_89 : aKV mX6_slotsOf mX3_ownedBy 89 1 3 := ⟨cb_X3_ownedBy, rfl, ml_X6_89, iv_X3_ownedBy, sl_X3_ownedBy, ⟨_, _, rfl⟩, ⟨Nat.le_of_ble_eq_true rfl, Nat.le_of_ble_eq_true rfl⟩⟩
theorem k_X6_loadOf_123 : aKV mX6_loadOf mX6_checkServer 123 1 6 := ⟨cb_X6_checkServer, rfl, ml_X6_123, iv_X6_checkServer, sl_X6_checkServer, ⟨_, _, rfl⟩, ⟨Nat.le_of_ble_eq_true rfl, Nat.le_of_ble_eq_true rfl⟩⟩
theorem k_X6_loadOf_126 : aKV mX6_loadOf mX0_load 126 1 0 := ⟨cb_X0_load, rfl, ml_X6_126, iv_X0_load, sl_X0_load, ⟨_, _, rfl⟩, ⟨Nat.le_of_ble_eq_true rfl, Nat.le_of_ble_eq_true rfl⟩⟩
theorem k_X6_preference_123 : aKV mX6_preference mX6_checkServer 123 1 6 := ⟨cb_X6_checkServer, rfl, ml_X6_123, iv_X6_checkServer, sl_X6_checkServer, ⟨_, _, rfl⟩, ⟨Nat.le_of_ble_eq_true rfl, Nat.le_of_ble_eq_true rfl⟩⟩
theorem k_X6_preference_70 : aKV mX6_preference mX3_isSlot 70 1 3 := ⟨cb_X3_isSlot, rfl, ml_X6_70, iv_X3_isSlot, sl_X3_isSlot, ⟨_, _, rfl⟩, ⟨Nat.le_of_ble_eq_true rfl, Nat.le_of_ble_eq_true rfl⟩⟩
theorem k_X6_preference_153 : aKV mX6_preference mX0_name 153 1 0 := ⟨cb_X0_name, rfl, ml_X6_153, iv_X0_name, sl_X0_name, ⟨_, _, rfl⟩, ⟨Nat.le_of_ble_eq_true rfl, Nat.le_of_ble_eq_true rfl⟩⟩
theorem k_X6_preference_156 : aKV mX6_preference mX3_preferredSlot 156 2 3 := ⟨cb_X3_preferredSlot, rfl, ml_X6_156, iv_X3_preferredSlot, sl_X3_preferredSlot, ⟨_, _, rfl⟩, ⟨Nat.le_of_ble_eq_true rfl, Nat.le_of_ble_eq_true rfl⟩⟩
theorem k_X6_removalDisruption_123 : aKV mX6_removalDisruption mX6_checkServer 123 1 6 := ⟨cb_X6_checkServer, rfl, ml_X6_123, iv_X6_checkServer, sl_X6_checkServer, ⟨_, _, rfl⟩, ⟨Nat.le_of_ble_eq_true rfl, Nat.le_of_ble_eq_true rfl⟩⟩
theorem k_X6_removalDisruption_160 : aKV mX6_removalDisruption mX3_changedWithout 160 2 3 := ⟨cb_X3_changedWithout, rfl, ml_X6_160, iv_X3_changedWithout, sl_X3_changedWithout, ⟨_, _, rfl⟩, ⟨Nat.le_of_ble_eq_true rfl, Nat.le_of_ble_eq_true rfl⟩⟩
theorem k_X6_rankedServer_179 : aKV mX6_rankedServer mX0_upCount 179 0 0 := ⟨cb_X0_upCount, rfl, ml_X6_179, iv_X0_upCount, sl_X0_upCount, ⟨_, _, rfl⟩, ⟨Nat.le_of_ble_eq_true rfl, Nat.le_of_ble_eq_true rfl⟩⟩
theorem k_X6_rankedServer_187 : aKV mX6_rankedServer mX0_ranked 187 1 0 := ⟨cb_X0_ranked, rfl, ml_X6_187, iv_X0_ranked, sl_X0_ranked, ⟨_, _, rfl⟩, ⟨Nat.le_of_ble_eq_true rfl, Nat.le_of_ble_eq_true rfl⟩⟩
theorem k_X6_hotKey_208 : aKV mX6_hotKey mX6_checkEntry 208 1 6 := ⟨cb_X6_checkEntry, rfl, ml_X6_208, iv_X6_checkEntry, sl_X6_checkEntry, ⟨_, _, rfl⟩, ⟨Nat.le_of_ble_eq_true rfl, Nat.le_of_ble_eq_true rfl⟩⟩
theorem k_X6_hotKey_205 : aKV mX6_hotKey mX5_key 205 1 5 := ⟨cb_X5_key, rfl, ml_X6_205, iv_X5_key, sl_X5_key, ⟨_, _, rfl⟩, ⟨Nat.le_of_ble_eq_true rfl, Nat.le_of_ble_eq_true rfl⟩⟩
theorem k_X6_hotCount_208 : aKV mX6_hotCount mX6_checkEntry 208 1 6 := ⟨cb_X6_checkEntry, rfl, ml_X6_208, iv_X6_checkEntry, sl_X6_checkEntry, ⟨_, _, rfl⟩, ⟨Nat.le_of_ble_eq_true rfl, Nat.le_of_ble_eq_true rfl⟩⟩
theorem k_X6_hotCount_211 : aKV mX6_hotCount mX5_counted 211 1 5 := ⟨cb_X5_counted, rfl, ml_X6_211, iv_X5_counted, sl_X5_counted, ⟨_, _, rfl⟩, ⟨Nat.le_of_ble_eq_true rfl, Nat.le_of_ble_eq_true rfl⟩⟩
theorem k_X6_hotError_208 : aKV mX6_hotError mX6_checkEntry 208 1 6 := ⟨cb_X6_checkEntry, rfl, ml_X6_208, iv_X6_checkEntry, sl_X6_checkEntry, ⟨_, _, rfl⟩, ⟨Nat.le_of_ble_eq_true rfl, Nat.le_of_ble_eq_true rfl⟩⟩
theorem k_X6_hotError_214 : aKV mX6_hotError mX5_error 214 1 5 := ⟨cb_X5_error, rfl, ml_X6_214, iv_X5_error, sl_X5_error, ⟨_, _, rfl⟩, ⟨Nat.le_of_ble_eq_true rfl, Nat.le_of_ble_eq_true rfl⟩⟩
/-! ===== PreferenceTable: its methods ===== -/
def slC (j : Nat) : Int32 := ([5, 7, 11, 13, 17, 19, 23, 29, 31, 37, 41, 43, 47, 53, 59, 61] : List Int32).getD j 0
def aXok (X : aX) : Prop := X.2.2.2.1 0 = 16 ∧ ∀ j, j < 16 → X.2.2.2.2 0 j = slC j
def gSc (s : Int32) : Bool := (aFo (fun j => decide (slC j = s)) 16 0).isSome
theorem fHs_N {t : fT} {s : Int32} (ht : ∀ j, j < 10 → t.1 j ≤ 9999) (h : fHs (cS t).1 s = true) : ∃ i, i < 10 ∧ s = nI i ∧ 0 < t.1 i := by
  have hi := fHs_in h
  obtain ⟨i, h1, rfl⟩ := vp_in_of hi (by decide)
  refine ⟨i, h1, rfl, ?_⟩
  rw [fHs_j h1] at h
  have h2 : ¬ nI (t.1 i) = 0 := of_decide_eq_true h
  rcases Nat.eq_zero_or_pos (t.1 i) with q | q
  · rw [q] at h2; exact absurd rfl h2
  · exact q
theorem fPut_ok {t : fT} {i n w : Nat} (ht : fOk t) (hn : n ≤ 9999) (hw : w ≤ 16) : fOk (fPut t i n w) := by
  refine ⟨fun j hj => ?_, fun j hj => ?_, ht.2.2⟩
  · show dUp t.1 i n j ≤ 9999
    unfold dUp; split
    · exact hn
    · exact ht.1 j hj
  · show dUp t.2.1 i w j ≤ 16
    unfold dUp; split
    · exact hw
    · exact ht.2.1 j hj
theorem fDrp_ok {t : fT} {i : Nat} (ht : fOk t) : fOk (fDrp t i) := by
  refine ⟨fun j hj => ?_, ht.2.1, ht.2.2⟩
  show dUp t.1 i 0 j ≤ 9999
  unfold dUp; split
  · omega
  · exact ht.1 j hj
theorem fSwt_ok {t : fT} {i w : Nat} (ht : fOk t) (hw : w ≤ 16) : fOk (fSwt t i w) := by
  refine ⟨ht.1, fun j hj => ?_, ht.2.2⟩
  show dUp t.2.1 i w j ≤ 16
  unfold dUp; split
  · exact hw
  · exact ht.2.1 j hj
theorem fPin_ok {t : fT} {p : pT} (ht : fOk t) (hp : p.2.2 ≤ 6) : fOk (fPin t p) := ⟨ht.1, ht.2.1, hp⟩
section PT3
variable {l : Launch} {X : aX} {t : fT} {b : bT} {k : kT} {y : hT}
theorem a_xstore_n {M : aM} {F : aPh} {kc ks pc : Nat} {L st : List Value} {h : List aCell} {i : Fin 4} {x : Nat} (hd : decode M.2.1 pc = .ok (.astore_n i, 1)) (hn : (i : Nat) < M.2.2.1) (hw : aLow L i = true) (k : aJ l X M F kc ks (pc + 1) (L.set (i : Nat) (.retAddr x)) st h) : aJ l X M F kc ks pc L (.retAddr x :: st) h :=
  fun p e s m args below meth c H locs ls A ad ad0 B S => lv_astore_n B.1.1 B.1.2.1 hd rfl (aLv.has S.2.2.2) hn rfl (fun ls' hl' => k p e s m args below meth c H locs ls' A ad ad0 B ⟨S.1, S.2.1, S.2.2.1, aLv.put1 (v := .retAddr x) hw hl'⟩)
theorem c_X6_isSlotCount (hX : aXok X) (s : Int32) : aRd l X mX6_isSlotCount [] [.int s] [] (.int (bI (gSc s))) := by
  refine aMt.of (by decide) rfl (Nat.le_of_ble_eq_true rfl) ?_
  generalize hr : aFo (fun j => decide (slC j = s)) 16 0 = r
  have hg : gSc s = r.isSome := by unfold gSc; rw [hr]
  rw [hg]
  refine a_xget qf_X6_223 dX6_isSlotCount_0 ?_
  refine a_xstore_n dX6_isSlotCount_3 (by decide) rfl ?_
  refine a_xload_n dX6_isSlotCount_4 rfl ?_
  refine a_xlen (nI 16) (by decide) dX6_isSlotCount_5 (by rw [hX.1]; rfl) ?_
  refine a_istore_n dX6_isSlotCount_6 (by decide) rfl ?_
  refine a_iconst 0 dX6_isSlotCount_7 (by decide) ?_
  refine a_istore_n dX6_isSlotCount_8 (by decide) rfl ?_
  have lp : ∀ (k j : Nat), j + k = 16 → aFo (fun j => decide (slC j = s)) k j = r → aJ l X mX6_isSlotCount (aEd X mX6_isSlotCount [] (fun o h' => o = .inl (some (.int (bI r.isSome))) ∧ h' = [])) 0 0 9 [.int s, .retAddr 0, .int (nI 16), .int (nI j), .null] [] [] := by
    intro k
    induction k with
    | zero =>
      intro j hj hq
      obtain rfl : j = 16 := by omega
      refine a_iload_n dX6_isSlotCount_9 rfl ?_
      refine a_iload_n dX6_isSlotCount_10 rfl ?_
      refine a_icmp_ge 33 dX6_isSlotCount_11 (by decide) (fun _ => ?_) (fun z => absurd (by decide) z)
      refine a_iconst 0 dX6_isSlotCount_33 (by decide) ?_
      refine a_zret rfl rfl dX6_isSlotCount_34 (by decide) (by decide) ?_
      exact ⟨by rw [← hq]; rfl, rfl⟩
    | succ k ih =>
      intro j hj hq
      refine a_iload_n dX6_isSlotCount_9 rfl ?_
      refine a_iload_n dX6_isSlotCount_10 rfl ?_
      refine a_icmp_ge 33 dX6_isSlotCount_11 (by decide) (fun z => absurd z (nI_ge (b := 16) (by omega) (by decide))) (fun _ => ?_)
      refine a_xload_n dX6_isSlotCount_14 rfl ?_
      refine a_iload_n dX6_isSlotCount_15 rfl ?_
      refine a_xald (by decide) dX6_isSlotCount_16 (by rw [hX.1]; exact vp_in_nI (by omega) (by decide)) ?_
      rw [nI_clamp (by omega), hX.2 j (by omega)]
      refine a_istore dX6_isSlotCount_17 (by decide) rfl ?_
      refine a_iload dX6_isSlotCount_19 rfl ?_
      refine a_iload_n dX6_isSlotCount_21 rfl ?_
      refine a_icmp_ne 27 dX6_isSlotCount_22 (by decide) (fun c22 => ?_) (fun c22 => ?_)
      · refine a_iinc (nI (j + 1)) dX6_isSlotCount_27 rfl (nI_1 _) (by decide) rfl ?_
        refine a_goto 9 dX6_isSlotCount_30 (by decide) ?_
        refine a_drop 4 ?_
        exact ih (j + 1) (by omega) (by rw [← hq]; simp [aFo, c22])
      · refine a_iconst 1 dX6_isSlotCount_25 (by decide) ?_
        refine a_zret rfl rfl dX6_isSlotCount_26 (by decide) (by decide) ?_
        exact ⟨by rw [← hq]; simp [aFo, c22, bI], rfl⟩
  exact lp 16 0 rfl hr
theorem c_X6_disruption : aRd l X mX6_disruption [0] [.ref 0] (aPT t b k y) (.int b.2.2.2.2.1) := by
  refine aMt.of (by decide) rfl (Nat.le_of_ble_eq_true rfl) ?_
  refine a_aload_n dX6_disruption_0 rfl ?_
  refine a_get fl_X6_28 dX6_disruption_1 rfl rfl ?_
  refine a_ViR [9, 10, 11, 12] k_X6_disruption_79 (c_X3_changedSlots (M := b.1) (ow := b.2.1) (dr := b.2.2.1) (tr := b.2.2.2.1) (ch := b.2.2.2.2.1) (fo := b.2.2.2.2.2)) dX6_disruption_4 rfl rfl rfl rfl rfl rfl (Nat.le_of_ble_eq_true rfl) ⟨Nat.le_of_ble_eq_true rfl, Nat.le_of_ble_eq_true rfl⟩ ⟨rfl, rfl⟩ ?_
  refine a_iret rfl dX6_disruption_7 (by decide) (by decide) ?_
  exact ⟨rfl, rfl⟩
theorem c_X6_forcedDisruption : aRd l X mX6_forcedDisruption [0] [.ref 0] (aPT t b k y) (.int b.2.2.2.2.2) := by
  refine aMt.of (by decide) rfl (Nat.le_of_ble_eq_true rfl) ?_
  refine a_aload_n dX6_forcedDisruption_0 rfl ?_
  refine a_get fl_X6_28 dX6_forcedDisruption_1 rfl rfl ?_
  refine a_ViR [9, 10, 11, 12] k_X6_forcedDisruption_82 (c_X3_forcedSlots (M := b.1) (ow := b.2.1) (dr := b.2.2.1) (tr := b.2.2.2.1) (ch := b.2.2.2.2.1) (fo := b.2.2.2.2.2)) dX6_forcedDisruption_4 rfl rfl rfl rfl rfl rfl (Nat.le_of_ble_eq_true rfl) ⟨Nat.le_of_ble_eq_true rfl, Nat.le_of_ble_eq_true rfl⟩ ⟨rfl, rfl⟩ ?_
  refine a_iret rfl dX6_forcedDisruption_7 (by decide) (by decide) ?_
  exact ⟨rfl, rfl⟩
theorem c_X6_serverCount : aRd l X mX6_serverCount [0] [.ref 0] (aPT t b k y) (.int (fSz (cS t).1)) := by
  refine aMt.of (by decide) rfl (Nat.le_of_ble_eq_true rfl) ?_
  refine a_aload_n dX6_serverCount_0 rfl ?_
  refine a_get fl_X6_10 dX6_serverCount_1 rfl rfl ?_
  refine a_ViR [1, 2, 3, 4, 5] k_X6_serverCount_150 (c_X0_size (nm := (cS t).1) (wt := (cS t).2.1) (up := (cS t).2.2.1) (ld := (cS t).2.2.2.1)) dX6_serverCount_4 rfl rfl rfl rfl rfl rfl (Nat.le_of_ble_eq_true rfl) ⟨Nat.le_of_ble_eq_true rfl, Nat.le_of_ble_eq_true rfl⟩ ⟨rfl, rfl⟩ ?_
  refine a_iret rfl dX6_serverCount_7 (by decide) (by decide) ?_
  exact ⟨rfl, rfl⟩
theorem c_X6_trackedKeys : aRd l X mX6_trackedKeys [0] [.ref 0] (aPT t b k y) (.int (nI k.2)) := by
  refine aMt.of (by decide) rfl (Nat.le_of_ble_eq_true rfl) ?_
  refine a_aload_n dX6_trackedKeys_0 rfl ?_
  refine a_get fl_X6_35 dX6_trackedKeys_1 rfl rfl ?_
  refine a_ViR [13, 14, 15, 16] k_X6_trackedKeys_200 (c_X5_size (tk := k.1.1) (tc := k.1.2.1) (te := k.1.2.2) (m := k.2)) dX6_trackedKeys_4 rfl rfl rfl rfl rfl rfl (Nat.le_of_ble_eq_true rfl) ⟨Nat.le_of_ble_eq_true rfl, Nat.le_of_ble_eq_true rfl⟩ ⟨rfl, rfl⟩ ?_
  refine a_iret rfl dX6_trackedKeys_7 (by decide) (by decide) ?_
  exact ⟨rfl, rfl⟩
theorem c_X6_serverAt (hl : l.stackTraces = false) (hb : bOk b) (s : Int32) : aMt l X mX6_serverAt [0] [.ref 0, .int s] (aPT t b k y) (fun o h' => o = (if sSl b.1 s then .inl (some (.int (b.2.1 s.toNatClampNeg))) else .inr IAE) ∧ h' = aPT t b k y) := by
  refine aMt.of (by decide) rfl (Nat.le_of_ble_eq_true rfl) ?_
  refine a_aload_n dX6_serverAt_0 rfl ?_
  refine a_get fl_X6_28 dX6_serverAt_1 rfl rfl ?_
  refine a_iload_n dX6_serverAt_4 rfl ?_
  refine a_ViR [9, 10, 11, 12] k_X6_serverAt_70 (c_X3_isSlot (M := b.1) (ow := b.2.1) (dr := b.2.2.1) (tr := b.2.2.2.1) (ch := b.2.2.2.2.1) (fo := b.2.2.2.2.2) s) dX6_serverAt_5 rfl rfl rfl rfl rfl rfl (Nat.le_of_ble_eq_true rfl) ⟨Nat.le_of_ble_eq_true rfl, Nat.le_of_ble_eq_true rfl⟩ ⟨rfl, rfl⟩ ?_
  refine a_if_ne 21 dX6_serverAt_8 (by decide) (fun c8 => ?_) (fun c8 => ?_)
  · have ho := c_X3_owner (l := l) (X := X) (ow := b.2.1) (dr := b.2.2.1) (tr := b.2.2.2.1) (ch := b.2.2.2.2.1) (fo := b.2.2.2.2.2) hb.2 s
    rw [if_pos (bI_1 c8)] at ho
    refine a_aload_n dX6_serverAt_21 rfl ?_
    refine a_get fl_X6_28 dX6_serverAt_22 rfl rfl ?_
    refine a_iload_n dX6_serverAt_25 rfl ?_
    refine a_ViR [9, 10, 11, 12] k_X6_serverAt_75 (ho) dX6_serverAt_26 rfl rfl rfl rfl rfl rfl (Nat.le_of_ble_eq_true rfl) ⟨Nat.le_of_ble_eq_true rfl, Nat.le_of_ble_eq_true rfl⟩ ⟨rfl, rfl⟩ ?_
    refine a_iret rfl dX6_serverAt_29 (by decide) (by decide) ?_
    exact ⟨by simp [bI_1 c8], rfl⟩
  · refine a_throw hl tw_54 tx_X6_73 rfl dX6_serverAt_11 dX6_serverAt_14 dX6_serverAt_15 dX6_serverAt_17 dX6_serverAt_20 ⟨Nat.le_of_ble_eq_true rfl, Nat.le_of_ble_eq_true rfl⟩ (Nat.le_of_ble_eq_true rfl) (Nat.le_of_ble_eq_true rfl) ?_
    exact ⟨by simp [bI_0 c8], rfl⟩
theorem c_X6_serverNamed (hl : l.stackTraces = false) (n : Int32) : aMt l X mX6_serverNamed [0] [.ref 0, .int n] (aPT t b k y) (fun o h' => o = (if gNm n then .inl (some (.int (fFn (cS t).1 n))) else .inr IAE) ∧ h' = aPT t b k y) := by
  refine aMt.of (by decide) rfl (Nat.le_of_ble_eq_true rfl) ?_
  have hck := c_X6_checkName (X := X) hl n
  by_cases hg : gNm n = true
  · rw [if_pos hg] at hck ⊢
    refine a_iload_n dX6_serverNamed_0 rfl ?_
    refine a_Sr [] k_X6_serverNamed_92 (hck) dX6_serverNamed_1 rfl rfl rfl rfl rfl (Nat.le_of_ble_eq_true rfl) ⟨Nat.le_of_ble_eq_true rfl, Nat.le_of_ble_eq_true rfl⟩ ?_
    refine a_aload_n dX6_serverNamed_4 rfl ?_
    refine a_get fl_X6_10 dX6_serverNamed_5 rfl rfl ?_
    refine a_iload_n dX6_serverNamed_8 rfl ?_
    refine a_ViR [1, 2, 3, 4, 5] k_X6_serverNamed_98 (c_X0_find (nm := (cS t).1) (wt := (cS t).2.1) (up := (cS t).2.2.1) (ld := (cS t).2.2.2.1) n) dX6_serverNamed_9 rfl rfl rfl rfl rfl rfl (Nat.le_of_ble_eq_true rfl) ⟨Nat.le_of_ble_eq_true rfl, Nat.le_of_ble_eq_true rfl⟩ ⟨rfl, rfl⟩ ?_
    refine a_iret rfl dX6_serverNamed_12 (by decide) (by decide) ?_
    exact ⟨rfl, rfl⟩
  · rw [if_neg hg] at hck ⊢
    refine a_iload_n dX6_serverNamed_0 rfl ?_
    refine a_Sx [] k_X6_serverNamed_92 (hck) dX6_serverNamed_1 rfl rfl rfl rfl rfl (Nat.le_of_ble_eq_true rfl) ⟨Nat.le_of_ble_eq_true rfl, Nat.le_of_ble_eq_true rfl⟩ rfl ?_
    exact ⟨rfl, rfl⟩
theorem c_X6_slotsOf (hl : l.stackTraces = false) (hb : bOk b) (s : Int32) : aMt l X mX6_slotsOf [0] [.ref 0, .int s] (aPT t b k y) (fun o h' => o = (if fHs (cS t).1 s then .inl (some (.int (sOb b.2.1 b.1 s))) else .inr IAE) ∧ h' = aPT t b k y) := by
  refine aMt.of (by decide) rfl (Nat.le_of_ble_eq_true rfl) ?_
  have hck := c_X6_checkServer (X := X) (t := t) (b := b) (k := k) (y := y) hl s
  by_cases hg : fHs (cS t).1 s = true
  · rw [if_pos hg] at hck ⊢
    refine a_aload_n dX6_slotsOf_0 rfl ?_
    refine a_iload_n dX6_slotsOf_1 rfl ?_
    refine a_Vr is55 k_X6_slotsOf_123 (hck) dX6_slotsOf_2 rfl rfl rfl rfl rfl rfl (Nat.le_of_ble_eq_true rfl) ⟨Nat.le_of_ble_eq_true rfl, Nat.le_of_ble_eq_true rfl⟩ ?_
    refine a_aload_n dX6_slotsOf_5 rfl ?_
    refine a_get fl_X6_28 dX6_slotsOf_6 rfl rfl ?_
    refine a_iload_n dX6_slotsOf_9 rfl ?_
    refine a_ViR [9, 10, 11, 12] k_X6_slotsOf_89 (c_X3_ownedBy (ow := b.2.1) (dr := b.2.2.1) (tr := b.2.2.2.1) (ch := b.2.2.2.2.1) (fo := b.2.2.2.2.2) hb.2 s) dX6_slotsOf_10 rfl rfl rfl rfl rfl rfl (Nat.le_of_ble_eq_true rfl) ⟨Nat.le_of_ble_eq_true rfl, Nat.le_of_ble_eq_true rfl⟩ ⟨rfl, rfl⟩ ?_
    refine a_iret rfl dX6_slotsOf_13 (by decide) (by decide) ?_
    exact ⟨rfl, rfl⟩
  · rw [if_neg hg] at hck ⊢
    refine a_aload_n dX6_slotsOf_0 rfl ?_
    refine a_iload_n dX6_slotsOf_1 rfl ?_
    refine a_Vx is55 k_X6_slotsOf_123 (hck) dX6_slotsOf_2 rfl rfl rfl rfl rfl rfl (Nat.le_of_ble_eq_true rfl) ⟨Nat.le_of_ble_eq_true rfl, Nat.le_of_ble_eq_true rfl⟩ rfl ?_
    exact ⟨rfl, rfl⟩
theorem c_X6_loadOf (hl : l.stackTraces = false) (s : Int32) : aMt l X mX6_loadOf [0] [.ref 0, .int s] (aPT t b k y) (fun o h' => o = (if fHs (cS t).1 s then .inl (some (.long (t.2.2.2.1 s.toNatClampNeg))) else .inr IAE) ∧ h' = aPT t b k y) := by
  refine aMt.of (by decide) rfl (Nat.le_of_ble_eq_true rfl) ?_
  have hck := c_X6_checkServer (X := X) (t := t) (b := b) (k := k) (y := y) hl s
  by_cases hg : fHs (cS t).1 s = true
  · rw [if_pos hg] at hck ⊢
    have hld := c_X0_load (l := l) (X := X) (nm := (cS t).1) (wt := (cS t).2.1) (up := (cS t).2.2.1) (ld := (cS t).2.2.2.1) s
    rw [if_pos hg] at hld
    refine a_aload_n dX6_loadOf_0 rfl ?_
    refine a_iload_n dX6_loadOf_1 rfl ?_
    refine a_Vr is55 k_X6_loadOf_123 (hck) dX6_loadOf_2 rfl rfl rfl rfl rfl rfl (Nat.le_of_ble_eq_true rfl) ⟨Nat.le_of_ble_eq_true rfl, Nat.le_of_ble_eq_true rfl⟩ ?_
    refine a_aload_n dX6_loadOf_5 rfl ?_
    refine a_get fl_X6_10 dX6_loadOf_6 rfl rfl ?_
    refine a_iload_n dX6_loadOf_9 rfl ?_
    refine a_VlR [1, 2, 3, 4, 5] k_X6_loadOf_126 (hld) dX6_loadOf_10 rfl rfl rfl rfl rfl rfl (Nat.le_of_ble_eq_true rfl) ⟨Nat.le_of_ble_eq_true rfl, Nat.le_of_ble_eq_true rfl⟩ ⟨rfl, rfl⟩ ?_
    refine a_lret rfl dX6_loadOf_13 (by decide) (by decide) ?_
    exact ⟨rfl, rfl⟩
  · rw [if_neg hg] at hck ⊢
    refine a_aload_n dX6_loadOf_0 rfl ?_
    refine a_iload_n dX6_loadOf_1 rfl ?_
    refine a_Vx is55 k_X6_loadOf_123 (hck) dX6_loadOf_2 rfl rfl rfl rfl rfl rfl (Nat.le_of_ble_eq_true rfl) ⟨Nat.le_of_ble_eq_true rfl, Nat.le_of_ble_eq_true rfl⟩ rfl ?_
    exact ⟨rfl, rfl⟩
theorem c_X6_preference (hl : l.stackTraces = false) (ht : fOk t) (hb : bOk b) (s j : Int32) : aMt l X mX6_preference [0] [.ref 0, .int s, .int j] (aPT t b k y) (fun o h' => o = (if fHs (cS t).1 s && sSl b.1 j then .inl (some (.int (nI (pPf b.1 (t.1 s.toNatClampNeg) j.toNatClampNeg)))) else .inr IAE) ∧ h' = aPT t b k y) := by
  refine aMt.of (by decide) rfl (Nat.le_of_ble_eq_true rfl) ?_
  have hck := c_X6_checkServer (X := X) (t := t) (b := b) (k := k) (y := y) hl s
  by_cases hg : fHs (cS t).1 s = true
  · rw [if_pos hg] at hck
    have hnm := c_X0_name (l := l) (X := X) (nm := (cS t).1) (wt := (cS t).2.1) (up := (cS t).2.2.1) (ld := (cS t).2.2.2.1) s
    rw [if_pos hg] at hnm
    refine a_aload_n dX6_preference_0 rfl ?_
    refine a_iload_n dX6_preference_1 rfl ?_
    refine a_Vr is55 k_X6_preference_123 (hck) dX6_preference_2 rfl rfl rfl rfl rfl rfl (Nat.le_of_ble_eq_true rfl) ⟨Nat.le_of_ble_eq_true rfl, Nat.le_of_ble_eq_true rfl⟩ ?_
    refine a_aload_n dX6_preference_5 rfl ?_
    refine a_get fl_X6_28 dX6_preference_6 rfl rfl ?_
    refine a_iload_n dX6_preference_9 rfl ?_
    refine a_ViR [9, 10, 11, 12] k_X6_preference_70 (c_X3_isSlot (M := b.1) (ow := b.2.1) (dr := b.2.2.1) (tr := b.2.2.2.1) (ch := b.2.2.2.2.1) (fo := b.2.2.2.2.2) j) dX6_preference_10 rfl rfl rfl rfl rfl rfl (Nat.le_of_ble_eq_true rfl) ⟨Nat.le_of_ble_eq_true rfl, Nat.le_of_ble_eq_true rfl⟩ ⟨rfl, rfl⟩ ?_
    refine a_if_ne 26 dX6_preference_13 (by decide) (fun c13 => ?_) (fun c13 => ?_)
    · have hj := bI_1 c13
      obtain ⟨jj, hjj, rfl⟩ := vp_in_of (sSl_in hb.2 hj) (by decide)
      obtain ⟨i, hi, rfl, -⟩ := fHs_N ht.1 hg
      have hA := ht.1 i hi
      have hb1 := hb.1
      rw [cl10 hi] at hnm ⊢
      refine a_aload_n dX6_preference_26 rfl ?_
      refine a_get fl_X6_28 dX6_preference_27 rfl rfl ?_
      refine a_aload_n dX6_preference_30 rfl ?_
      refine a_get fl_X6_10 dX6_preference_31 rfl rfl ?_
      refine a_iload_n dX6_preference_34 rfl ?_
      refine a_ViR [1, 2, 3, 4, 5] k_X6_preference_153 (hnm) dX6_preference_35 rfl rfl rfl rfl rfl rfl (Nat.le_of_ble_eq_true rfl) ⟨Nat.le_of_ble_eq_true rfl, Nat.le_of_ble_eq_true rfl⟩ ⟨rfl, rfl⟩ ?_
      refine a_iload_n dX6_preference_38 rfl ?_
      refine a_ViR [9, 10, 11, 12] k_X6_preference_156 (c_X3_preferredSlot (ow := b.2.1) (dr := b.2.2.1) (tr := b.2.2.2.1) (ch := b.2.2.2.2.1) (fo := b.2.2.2.2.2) (by omega) hb.2 (t.1 i) jj hA (by omega)) dX6_preference_39 rfl rfl rfl rfl rfl rfl (Nat.le_of_ble_eq_true rfl) ⟨Nat.le_of_ble_eq_true rfl, Nat.le_of_ble_eq_true rfl⟩ ⟨rfl, rfl⟩ ?_
      refine a_iret rfl dX6_preference_42 (by decide) (by decide) ?_
      exact ⟨by simp [hg, hj, cl61 hjj], rfl⟩
    · refine a_throw hl tw_54 tx_X6_151 rfl dX6_preference_16 dX6_preference_19 dX6_preference_20 dX6_preference_22 dX6_preference_25 ⟨Nat.le_of_ble_eq_true rfl, Nat.le_of_ble_eq_true rfl⟩ (Nat.le_of_ble_eq_true rfl) (Nat.le_of_ble_eq_true rfl) ?_
      exact ⟨by simp [bI_0 c13], rfl⟩
  · rw [if_neg hg] at hck
    refine a_aload_n dX6_preference_0 rfl ?_
    refine a_iload_n dX6_preference_1 rfl ?_
    refine a_Vx is55 k_X6_preference_123 (hck) dX6_preference_2 rfl rfl rfl rfl rfl rfl (Nat.le_of_ble_eq_true rfl) ⟨Nat.le_of_ble_eq_true rfl, Nat.le_of_ble_eq_true rfl⟩ rfl ?_
    exact ⟨by simp [hg], rfl⟩
theorem c_X6_removalDisruption (hl : l.stackTraces = false) (ht : fOk t) (hb : bOk b) (s : Int32) : aMt l X mX6_removalDisruption [0] [.ref 0, .int s] (aPT t b k y) (fun o h' => o = (if fHs (cS t).1 s then .inl (some (.int (sCc b.2.1 (nDr t b s).1 b.1))) else .inr IAE) ∧ h' = aPT t (if fHs (cS t).1 s then bWo t b s else b) k y) := by
  refine aMt.of (by decide) rfl (Nat.le_of_ble_eq_true rfl) ?_
  have hck := c_X6_checkServer (X := X) (t := t) (b := b) (k := k) (y := y) hl s
  by_cases hg : fHs (cS t).1 s = true
  · rw [if_pos hg] at hck
    rw [if_pos hg, if_pos hg]
    refine a_aload_n dX6_removalDisruption_0 rfl ?_
    refine a_iload_n dX6_removalDisruption_1 rfl ?_
    refine a_Vr is55 k_X6_removalDisruption_123 (hck) dX6_removalDisruption_2 rfl rfl rfl rfl rfl rfl (Nat.le_of_ble_eq_true rfl) ⟨Nat.le_of_ble_eq_true rfl, Nat.le_of_ble_eq_true rfl⟩ ?_
    refine a_aload_n dX6_removalDisruption_5 rfl ?_
    refine a_get fl_X6_28 dX6_removalDisruption_6 rfl rfl ?_
    refine a_aload_n dX6_removalDisruption_9 rfl ?_
    refine a_get fl_X6_10 dX6_removalDisruption_10 rfl rfl ?_
    refine a_iload_n dX6_removalDisruption_13 rfl ?_
    refine a_ViW [9, 10, 11, 12, 1, 2, 3, 4, 5] (aPT t (bWo t b s) k y) k_X6_removalDisruption_160 (n_changedWithout ht hb s) dX6_removalDisruption_14 rfl rfl rfl rfl rfl rfl (Nat.le_of_ble_eq_true rfl) ⟨Nat.le_of_ble_eq_true rfl, Nat.le_of_ble_eq_true rfl⟩ ⟨rfl, rfl⟩ (Nat.le_of_ble_eq_true rfl) rfl ?_
    refine a_iret rfl dX6_removalDisruption_17 (by decide) (by decide) ?_
    exact ⟨rfl, rfl⟩
  · rw [if_neg hg] at hck
    rw [if_neg hg, if_neg hg]
    refine a_aload_n dX6_removalDisruption_0 rfl ?_
    refine a_iload_n dX6_removalDisruption_1 rfl ?_
    refine a_Vx is55 k_X6_removalDisruption_123 (hck) dX6_removalDisruption_2 rfl rfl rfl rfl rfl rfl (Nat.le_of_ble_eq_true rfl) ⟨Nat.le_of_ble_eq_true rfl, Nat.le_of_ble_eq_true rfl⟩ rfl ?_
    exact ⟨rfl, rfl⟩
theorem c_X6_rankedServer (hl : l.stackTraces = false) (p : Int32) : aMt l X mX6_rankedServer [0] [.ref 0, .int p] (aPT t b k y) (fun o h' => o = (if decide (¬ p < 0) && decide (p < fUc (cS t).1 (cS t).2.2.1) then .inl (some (.int (fRd (cS t).1 (cS t).2.1 (cS t).2.2.1 (cS t).2.2.2.1 p))) else .inr IOE) ∧ h' = aPT t b k y) := by
  refine aMt.of (by decide) rfl (Nat.le_of_ble_eq_true rfl) ?_
  refine a_iload_n dX6_rankedServer_0 rfl ?_
  refine a_if_lt 15 dX6_rankedServer_1 (by decide) (fun c1 => ?_) (fun c1 => ?_)
  · refine a_throw hl tw_186 tx_X6_184 rfl dX6_rankedServer_15 dX6_rankedServer_18 dX6_rankedServer_19 dX6_rankedServer_21 dX6_rankedServer_24 ⟨Nat.le_of_ble_eq_true rfl, Nat.le_of_ble_eq_true rfl⟩ (Nat.le_of_ble_eq_true rfl) (Nat.le_of_ble_eq_true rfl) ?_
    exact ⟨by simp [c1], rfl⟩
  · refine a_iload_n dX6_rankedServer_4 rfl ?_
    refine a_aload_n dX6_rankedServer_5 rfl ?_
    refine a_get fl_X6_10 dX6_rankedServer_6 rfl rfl ?_
    refine a_ViR [1, 2, 3, 4, 5] k_X6_rankedServer_179 (c_X0_upCount (nm := (cS t).1) (wt := (cS t).2.1) (up := (cS t).2.2.1) (ld := (cS t).2.2.2.1)) dX6_rankedServer_9 rfl rfl rfl rfl rfl rfl (Nat.le_of_ble_eq_true rfl) ⟨Nat.le_of_ble_eq_true rfl, Nat.le_of_ble_eq_true rfl⟩ ⟨rfl, rfl⟩ ?_
    refine a_icmp_lt 25 dX6_rankedServer_12 (by decide) (fun c12 => ?_) (fun c12 => ?_)
    · refine a_aload_n dX6_rankedServer_25 rfl ?_
      refine a_get fl_X6_10 dX6_rankedServer_26 rfl rfl ?_
      refine a_iload_n dX6_rankedServer_29 rfl ?_
      refine a_ViR [1, 2, 3, 4, 5] k_X6_rankedServer_187 (c_X0_ranked (nm := (cS t).1) (wt := (cS t).2.1) (up := (cS t).2.2.1) (ld := (cS t).2.2.2.1) p) dX6_rankedServer_30 rfl rfl rfl rfl rfl rfl (Nat.le_of_ble_eq_true rfl) ⟨Nat.le_of_ble_eq_true rfl, Nat.le_of_ble_eq_true rfl⟩ ⟨rfl, rfl⟩ ?_
      refine a_iret rfl dX6_rankedServer_33 (by decide) (by decide) ?_
      exact ⟨by simp [c1, c12], rfl⟩
    · refine a_throw hl tw_186 tx_X6_184 rfl dX6_rankedServer_15 dX6_rankedServer_18 dX6_rankedServer_19 dX6_rankedServer_21 dX6_rankedServer_24 ⟨Nat.le_of_ble_eq_true rfl, Nat.le_of_ble_eq_true rfl⟩ (Nat.le_of_ble_eq_true rfl) (Nat.le_of_ble_eq_true rfl) ?_
      exact ⟨by simp [c12], rfl⟩
theorem c_X6_hotKey (hl : l.stackTraces = false) (e : Int32) : aMt l X mX6_hotKey [0] [.ref 0, .int e] (aPT t b k y) (fun o h' => o = (if tHs k.2 e then .inl (some (.int (k.1.1 e.toNatClampNeg))) else .inr IOE) ∧ h' = aPT t b k y) := by
  refine aMt.of (by decide) rfl (Nat.le_of_ble_eq_true rfl) ?_
  have hck := c_X6_checkEntry (X := X) (t := t) (b := b) (k := k) (y := y) hl e
  by_cases hg : tHs k.2 e = true
  · rw [if_pos hg] at hck ⊢
    have hld := c_X5_key (l := l) (X := X) (tk := k.1.1) (tc := k.1.2.1) (te := k.1.2.2) (m := k.2) e
    rw [if_pos hg] at hld
    refine a_aload_n dX6_hotKey_0 rfl ?_
    refine a_iload_n dX6_hotKey_1 rfl ?_
    refine a_Vr is55 k_X6_hotKey_208 (hck) dX6_hotKey_2 rfl rfl rfl rfl rfl rfl (Nat.le_of_ble_eq_true rfl) ⟨Nat.le_of_ble_eq_true rfl, Nat.le_of_ble_eq_true rfl⟩ ?_
    refine a_aload_n dX6_hotKey_5 rfl ?_
    refine a_get fl_X6_35 dX6_hotKey_6 rfl rfl ?_
    refine a_iload_n dX6_hotKey_9 rfl ?_
    refine a_ViR [13, 14, 15, 16] k_X6_hotKey_205 (hld) dX6_hotKey_10 rfl rfl rfl rfl rfl rfl (Nat.le_of_ble_eq_true rfl) ⟨Nat.le_of_ble_eq_true rfl, Nat.le_of_ble_eq_true rfl⟩ ⟨rfl, rfl⟩ ?_
    refine a_iret rfl dX6_hotKey_13 (by decide) (by decide) ?_
    exact ⟨rfl, rfl⟩
  · rw [if_neg hg] at hck ⊢
    refine a_aload_n dX6_hotKey_0 rfl ?_
    refine a_iload_n dX6_hotKey_1 rfl ?_
    refine a_Vx is55 k_X6_hotKey_208 (hck) dX6_hotKey_2 rfl rfl rfl rfl rfl rfl (Nat.le_of_ble_eq_true rfl) ⟨Nat.le_of_ble_eq_true rfl, Nat.le_of_ble_eq_true rfl⟩ rfl ?_
    exact ⟨rfl, rfl⟩
theorem c_X6_hotCount (hl : l.stackTraces = false) (e : Int32) : aMt l X mX6_hotCount [0] [.ref 0, .int e] (aPT t b k y) (fun o h' => o = (if tHs k.2 e then .inl (some (.long (k.1.2.1 e.toNatClampNeg))) else .inr IOE) ∧ h' = aPT t b k y) := by
  refine aMt.of (by decide) rfl (Nat.le_of_ble_eq_true rfl) ?_
  have hck := c_X6_checkEntry (X := X) (t := t) (b := b) (k := k) (y := y) hl e
  by_cases hg : tHs k.2 e = true
  · rw [if_pos hg] at hck ⊢
    have hld := c_X5_counted (l := l) (X := X) (tk := k.1.1) (tc := k.1.2.1) (te := k.1.2.2) (m := k.2) e
    rw [if_pos hg] at hld
    refine a_aload_n dX6_hotCount_0 rfl ?_
    refine a_iload_n dX6_hotCount_1 rfl ?_
    refine a_Vr is55 k_X6_hotCount_208 (hck) dX6_hotCount_2 rfl rfl rfl rfl rfl rfl (Nat.le_of_ble_eq_true rfl) ⟨Nat.le_of_ble_eq_true rfl, Nat.le_of_ble_eq_true rfl⟩ ?_
    refine a_aload_n dX6_hotCount_5 rfl ?_
    refine a_get fl_X6_35 dX6_hotCount_6 rfl rfl ?_
    refine a_iload_n dX6_hotCount_9 rfl ?_
    refine a_VlR [13, 14, 15, 16] k_X6_hotCount_211 (hld) dX6_hotCount_10 rfl rfl rfl rfl rfl rfl (Nat.le_of_ble_eq_true rfl) ⟨Nat.le_of_ble_eq_true rfl, Nat.le_of_ble_eq_true rfl⟩ ⟨rfl, rfl⟩ ?_
    refine a_lret rfl dX6_hotCount_13 (by decide) (by decide) ?_
    exact ⟨rfl, rfl⟩
  · rw [if_neg hg] at hck ⊢
    refine a_aload_n dX6_hotCount_0 rfl ?_
    refine a_iload_n dX6_hotCount_1 rfl ?_
    refine a_Vx is55 k_X6_hotCount_208 (hck) dX6_hotCount_2 rfl rfl rfl rfl rfl rfl (Nat.le_of_ble_eq_true rfl) ⟨Nat.le_of_ble_eq_true rfl, Nat.le_of_ble_eq_true rfl⟩ rfl ?_
    exact ⟨rfl, rfl⟩
theorem c_X6_hotError (hl : l.stackTraces = false) (e : Int32) : aMt l X mX6_hotError [0] [.ref 0, .int e] (aPT t b k y) (fun o h' => o = (if tHs k.2 e then .inl (some (.long (k.1.2.2 e.toNatClampNeg))) else .inr IOE) ∧ h' = aPT t b k y) := by
  refine aMt.of (by decide) rfl (Nat.le_of_ble_eq_true rfl) ?_
  have hck := c_X6_checkEntry (X := X) (t := t) (b := b) (k := k) (y := y) hl e
  by_cases hg : tHs k.2 e = true
  · rw [if_pos hg] at hck ⊢
    have hld := c_X5_error (l := l) (X := X) (tk := k.1.1) (tc := k.1.2.1) (te := k.1.2.2) (m := k.2) e
    rw [if_pos hg] at hld
    refine a_aload_n dX6_hotError_0 rfl ?_
    refine a_iload_n dX6_hotError_1 rfl ?_
    refine a_Vr is55 k_X6_hotError_208 (hck) dX6_hotError_2 rfl rfl rfl rfl rfl rfl (Nat.le_of_ble_eq_true rfl) ⟨Nat.le_of_ble_eq_true rfl, Nat.le_of_ble_eq_true rfl⟩ ?_
    refine a_aload_n dX6_hotError_5 rfl ?_
    refine a_get fl_X6_35 dX6_hotError_6 rfl rfl ?_
    refine a_iload_n dX6_hotError_9 rfl ?_
    refine a_VlR [13, 14, 15, 16] k_X6_hotError_214 (hld) dX6_hotError_10 rfl rfl rfl rfl rfl rfl (Nat.le_of_ble_eq_true rfl) ⟨Nat.le_of_ble_eq_true rfl, Nat.le_of_ble_eq_true rfl⟩ ⟨rfl, rfl⟩ ?_
    refine a_lret rfl dX6_hotError_13 (by decide) (by decide) ?_
    exact ⟨rfl, rfl⟩
  · rw [if_neg hg] at hck ⊢
    refine a_aload_n dX6_hotError_0 rfl ?_
    refine a_iload_n dX6_hotError_1 rfl ?_
    refine a_Vx is55 k_X6_hotError_208 (hck) dX6_hotError_2 rfl rfl rfl rfl rfl rfl (Nat.le_of_ble_eq_true rfl) ⟨Nat.le_of_ble_eq_true rfl, Nat.le_of_ble_eq_true rfl⟩ rfl ?_
    exact ⟨rfl, rfl⟩
end PT3
end
section
/-! written by wip/whole/pp.py out of wip/whole/src/25.pt4.lean -/
theorem dX6_serverOf_0 : decode cX6_serverOf 0 = .ok (.iload_n 1, 1) := by decide +kernel
theorem dX6_serverOf_1 : decode cX6_serverOf 1 = .ok (.invokestatic 164, 3) := by decide +kernel
theorem dX6_serverOf_4 : decode cX6_serverOf 4 = .ok (.aload_n 0, 1) := by decide +kernel
theorem dX6_serverOf_5 : decode cX6_serverOf 5 = .ok (.iload_n 1, 1) := by decide +kernel
theorem dX6_serverOf_6 : decode cX6_serverOf 6 = .ok (.invokevirtual 167, 3) := by decide +kernel
theorem dX6_serverOf_9 : decode cX6_serverOf 9 = .ok (.ireturn, 1) := by decide +kernel
theorem dX6_request_0 : decode cX6_request 0 = .ok (.iload_n 1, 1) := by decide +kernel
theorem dX6_request_1 : decode cX6_request 1 = .ok (.invokestatic 164, 3) := by decide +kernel
theorem dX6_request_4 : decode cX6_request 4 = .ok (.iload_n 2, 1) := by decide +kernel
theorem dX6_request_5 : decode cX6_request 5 = .ok (.iconst 1, 1) := by decide +kernel
theorem dX6_request_6 : decode cX6_request 6 = .ok (.if_icmp .lt 9, 3) := by decide +kernel
theorem dX6_request_9 : decode cX6_request 9 = .ok (.iload_n 2, 1) := by decide +kernel
theorem dX6_request_10 : decode cX6_request 10 = .ok (.ldc 170, 2) := by decide +kernel
theorem dX6_request_12 : decode cX6_request 12 = .ok (.if_icmp .le 13, 3) := by decide +kernel
theorem dX6_request_15 : decode cX6_request 15 = .ok (.new 50, 3) := by decide +kernel
theorem dX6_request_18 : decode cX6_request 18 = .ok (.dup, 1) := by decide +kernel
theorem dX6_request_19 : decode cX6_request 19 = .ok (.ldc 171, 2) := by decide +kernel
theorem dX6_request_21 : decode cX6_request 21 = .ok (.invokespecial 54, 3) := by decide +kernel
theorem dX6_request_24 : decode cX6_request 24 = .ok (.athrow, 1) := by decide +kernel
theorem dX6_request_25 : decode cX6_request 25 = .ok (.aload_n 0, 1) := by decide +kernel
theorem dX6_request_26 : decode cX6_request 26 = .ok (.iload_n 1, 1) := by decide +kernel
theorem dX6_request_27 : decode cX6_request 27 = .ok (.invokevirtual 167, 3) := by decide +kernel
theorem dX6_request_30 : decode cX6_request 30 = .ok (.istore_n 3, 1) := by decide +kernel
theorem dX6_request_31 : decode cX6_request 31 = .ok (.aload_n 0, 1) := by decide +kernel
theorem dX6_request_32 : decode cX6_request 32 = .ok (.getfield 10, 3) := by decide +kernel
theorem dX6_request_35 : decode cX6_request 35 = .ok (.iload_n 3, 1) := by decide +kernel
theorem dX6_request_36 : decode cX6_request 36 = .ok (.iload_n 2, 1) := by decide +kernel
theorem dX6_request_37 : decode cX6_request 37 = .ok (.invokevirtual 173, 3) := by decide +kernel
theorem dX6_request_40 : decode cX6_request 40 = .ok (.aload_n 0, 1) := by decide +kernel
theorem dX6_request_41 : decode cX6_request 41 = .ok (.getfield 35, 3) := by decide +kernel
theorem dX6_request_44 : decode cX6_request 44 = .ok (.iload_n 1, 1) := by decide +kernel
theorem dX6_request_45 : decode cX6_request 45 = .ok (.iload_n 2, 1) := by decide +kernel
theorem dX6_request_46 : decode cX6_request 46 = .ok (.invokevirtual 176, 3) := by decide +kernel
theorem dX6_request_49 : decode cX6_request 49 = .ok (.iload_n 3, 1) := by decide +kernel
theorem dX6_request_50 : decode cX6_request 50 = .ok (.ireturn, 1) := by decide +kernel
theorem dX6_pin_0 : decode cX6_pin 0 = .ok (.iload_n 1, 1) := by decide +kernel
theorem dX6_pin_1 : decode cX6_pin 1 = .ok (.invokestatic 164, 3) := by decide +kernel
theorem dX6_pin_4 : decode cX6_pin 4 = .ok (.aload_n 0, 1) := by decide +kernel
theorem dX6_pin_5 : decode cX6_pin 5 = .ok (.iload_n 2, 1) := by decide +kernel
theorem dX6_pin_6 : decode cX6_pin 6 = .ok (.invokevirtual 123, 3) := by decide +kernel
theorem dX6_pin_9 : decode cX6_pin 9 = .ok (.aload_n 0, 1) := by decide +kernel
theorem dX6_pin_10 : decode cX6_pin 10 = .ok (.iload_n 1, 1) := by decide +kernel
theorem dX6_pin_11 : decode cX6_pin 11 = .ok (.invokevirtual 190, 3) := by decide +kernel
theorem dX6_pin_14 : decode cX6_pin 14 = .ok (.aload_n 0, 1) := by decide +kernel
theorem dX6_pin_15 : decode cX6_pin 15 = .ok (.getfield 19, 3) := by decide +kernel
theorem dX6_pin_18 : decode cX6_pin 18 = .ok (.iload_n 1, 1) := by decide +kernel
theorem dX6_pin_19 : decode cX6_pin 19 = .ok (.iload_n 2, 1) := by decide +kernel
theorem dX6_pin_20 : decode cX6_pin 20 = .ok (.invokevirtual 193, 3) := by decide +kernel
theorem dX6_pin_23 : decode cX6_pin 23 = .ok (.aload_n 0, 1) := by decide +kernel
theorem dX6_pin_24 : decode cX6_pin 24 = .ok (.getfield 19, 3) := by decide +kernel
theorem dX6_pin_27 : decode cX6_pin 27 = .ok (.invokevirtual 195, 3) := by decide +kernel
theorem dX6_pin_30 : decode cX6_pin 30 = .ok (.ireturn, 1) := by decide +kernel
theorem dX6_unpin_0 : decode cX6_unpin 0 = .ok (.iload_n 1, 1) := by decide +kernel
theorem dX6_unpin_1 : decode cX6_unpin 1 = .ok (.invokestatic 164, 3) := by decide +kernel
theorem dX6_unpin_4 : decode cX6_unpin 4 = .ok (.aload_n 0, 1) := by decide +kernel
theorem dX6_unpin_5 : decode cX6_unpin 5 = .ok (.getfield 19, 3) := by decide +kernel
theorem dX6_unpin_8 : decode cX6_unpin 8 = .ok (.iload_n 1, 1) := by decide +kernel
theorem dX6_unpin_9 : decode cX6_unpin 9 = .ok (.invokevirtual 196, 3) := by decide +kernel
theorem dX6_unpin_12 : decode cX6_unpin 12 = .ok (.istore_n 2, 1) := by decide +kernel
theorem dX6_unpin_13 : decode cX6_unpin 13 = .ok (.aload_n 0, 1) := by decide +kernel
theorem dX6_unpin_14 : decode cX6_unpin 14 = .ok (.getfield 19, 3) := by decide +kernel
theorem dX6_unpin_17 : decode cX6_unpin 17 = .ok (.iload_n 1, 1) := by decide +kernel
theorem dX6_unpin_18 : decode cX6_unpin 18 = .ok (.invokevirtual 199, 3) := by decide +kernel
theorem dX6_unpin_21 : decode cX6_unpin 21 = .ok (.iload_n 2, 1) := by decide +kernel
theorem dX6_unpin_22 : decode cX6_unpin 22 = .ok (.ireturn, 1) := by decide +kernel
theorem dX6_pinHottest_0 : decode cX6_pinHottest 0 = .ok (.aload_n 0, 1) := by decide +kernel
theorem dX6_pinHottest_1 : decode cX6_pinHottest 1 = .ok (.getfield 35, 3) := by decide +kernel
theorem dX6_pinHottest_4 : decode cX6_pinHottest 4 = .ok (.invokevirtual 200, 3) := by decide +kernel
theorem dX6_pinHottest_7 : decode cX6_pinHottest 7 = .ok (.ifCond .ne 13, 3) := by decide +kernel
theorem dX6_pinHottest_10 : decode cX6_pinHottest 10 = .ok (.new 101, 3) := by decide +kernel
theorem dX6_pinHottest_13 : decode cX6_pinHottest 13 = .ok (.dup, 1) := by decide +kernel
theorem dX6_pinHottest_14 : decode cX6_pinHottest 14 = .ok (.ldc 201, 2) := by decide +kernel
theorem dX6_pinHottest_16 : decode cX6_pinHottest 16 = .ok (.invokespecial 105, 3) := by decide +kernel
theorem dX6_pinHottest_19 : decode cX6_pinHottest 19 = .ok (.athrow, 1) := by decide +kernel
theorem dX6_pinHottest_20 : decode cX6_pinHottest 20 = .ok (.aload_n 0, 1) := by decide +kernel
theorem dX6_pinHottest_21 : decode cX6_pinHottest 21 = .ok (.getfield 10, 3) := by decide +kernel
theorem dX6_pinHottest_24 : decode cX6_pinHottest 24 = .ok (.invokevirtual 179, 3) := by decide +kernel
theorem dX6_pinHottest_27 : decode cX6_pinHottest 27 = .ok (.istore_n 1, 1) := by decide +kernel
theorem dX6_pinHottest_28 : decode cX6_pinHottest 28 = .ok (.iload_n 1, 1) := by decide +kernel
theorem dX6_pinHottest_29 : decode cX6_pinHottest 29 = .ok (.ifCond .ne 13, 3) := by decide +kernel
theorem dX6_pinHottest_32 : decode cX6_pinHottest 32 = .ok (.new 101, 3) := by decide +kernel
theorem dX6_pinHottest_35 : decode cX6_pinHottest 35 = .ok (.dup, 1) := by decide +kernel
theorem dX6_pinHottest_36 : decode cX6_pinHottest 36 = .ok (.ldc 203, 2) := by decide +kernel
theorem dX6_pinHottest_38 : decode cX6_pinHottest 38 = .ok (.invokespecial 105, 3) := by decide +kernel
theorem dX6_pinHottest_41 : decode cX6_pinHottest 41 = .ok (.athrow, 1) := by decide +kernel
theorem dX6_pinHottest_42 : decode cX6_pinHottest 42 = .ok (.aload_n 0, 1) := by decide +kernel
theorem dX6_pinHottest_43 : decode cX6_pinHottest 43 = .ok (.getfield 35, 3) := by decide +kernel
theorem dX6_pinHottest_46 : decode cX6_pinHottest 46 = .ok (.iconst 0, 1) := by decide +kernel
theorem dX6_pinHottest_47 : decode cX6_pinHottest 47 = .ok (.invokevirtual 205, 3) := by decide +kernel
theorem dX6_pinHottest_50 : decode cX6_pinHottest 50 = .ok (.istore_n 2, 1) := by decide +kernel
theorem dX6_pinHottest_51 : decode cX6_pinHottest 51 = .ok (.aload_n 0, 1) := by decide +kernel
theorem dX6_pinHottest_52 : decode cX6_pinHottest 52 = .ok (.iload_n 2, 1) := by decide +kernel
theorem dX6_pinHottest_53 : decode cX6_pinHottest 53 = .ok (.invokevirtual 190, 3) := by decide +kernel
theorem dX6_pinHottest_56 : decode cX6_pinHottest 56 = .ok (.aload_n 0, 1) := by decide +kernel
theorem dX6_pinHottest_57 : decode cX6_pinHottest 57 = .ok (.getfield 10, 3) := by decide +kernel
theorem dX6_pinHottest_60 : decode cX6_pinHottest 60 = .ok (.iload_n 1, 1) := by decide +kernel
theorem dX6_pinHottest_61 : decode cX6_pinHottest 61 = .ok (.iconst 1, 1) := by decide +kernel
theorem dX6_pinHottest_62 : decode cX6_pinHottest 62 = .ok (.isub, 1) := by decide +kernel
theorem dX6_pinHottest_63 : decode cX6_pinHottest 63 = .ok (.invokevirtual 187, 3) := by decide +kernel
theorem dX6_pinHottest_66 : decode cX6_pinHottest 66 = .ok (.istore_n 3, 1) := by decide +kernel
theorem dX6_pinHottest_67 : decode cX6_pinHottest 67 = .ok (.aload_n 0, 1) := by decide +kernel
theorem dX6_pinHottest_68 : decode cX6_pinHottest 68 = .ok (.getfield 19, 3) := by decide +kernel
theorem dX6_pinHottest_71 : decode cX6_pinHottest 71 = .ok (.iload_n 2, 1) := by decide +kernel
theorem dX6_pinHottest_72 : decode cX6_pinHottest 72 = .ok (.iload_n 3, 1) := by decide +kernel
theorem dX6_pinHottest_73 : decode cX6_pinHottest 73 = .ok (.invokevirtual 193, 3) := by decide +kernel
theorem dX6_pinHottest_76 : decode cX6_pinHottest 76 = .ok (.iload_n 3, 1) := by decide +kernel
theorem dX6_pinHottest_77 : decode cX6_pinHottest 77 = .ok (.ireturn, 1) := by decide +kernel
theorem dX6_lookUp_0 : decode cX6_lookUp 0 = .ok (.aload_n 0, 1) := by decide +kernel
theorem dX6_lookUp_1 : decode cX6_lookUp 1 = .ok (.getfield 19, 3) := by decide +kernel
theorem dX6_lookUp_4 : decode cX6_lookUp 4 = .ok (.iload_n 1, 1) := by decide +kernel
theorem dX6_lookUp_5 : decode cX6_lookUp 5 = .ok (.invokevirtual 196, 3) := by decide +kernel
theorem dX6_lookUp_8 : decode cX6_lookUp 8 = .ok (.istore_n 2, 1) := by decide +kernel
theorem dX6_lookUp_9 : decode cX6_lookUp 9 = .ok (.aload_n 0, 1) := by decide +kernel
theorem dX6_lookUp_10 : decode cX6_lookUp 10 = .ok (.getfield 10, 3) := by decide +kernel
theorem dX6_lookUp_13 : decode cX6_lookUp 13 = .ok (.iload_n 2, 1) := by decide +kernel
theorem dX6_lookUp_14 : decode cX6_lookUp 14 = .ok (.invokevirtual 143, 3) := by decide +kernel
theorem dX6_lookUp_17 : decode cX6_lookUp 17 = .ok (.ifCond .eq 7, 3) := by decide +kernel
theorem dX6_lookUp_20 : decode cX6_lookUp 20 = .ok (.iload_n 2, 1) := by decide +kernel
theorem dX6_lookUp_21 : decode cX6_lookUp 21 = .ok (.goto 18, 3) := by decide +kernel
theorem dX6_lookUp_24 : decode cX6_lookUp 24 = .ok (.aload_n 0, 1) := by decide +kernel
theorem dX6_lookUp_25 : decode cX6_lookUp 25 = .ok (.getfield 28, 3) := by decide +kernel
theorem dX6_lookUp_28 : decode cX6_lookUp 28 = .ok (.aload_n 0, 1) := by decide +kernel
theorem dX6_lookUp_29 : decode cX6_lookUp 29 = .ok (.getfield 28, 3) := by decide +kernel
theorem dX6_lookUp_32 : decode cX6_lookUp 32 = .ok (.iload_n 1, 1) := by decide +kernel
theorem dX6_lookUp_33 : decode cX6_lookUp 33 = .ok (.invokevirtual 247, 3) := by decide +kernel
theorem dX6_lookUp_36 : decode cX6_lookUp 36 = .ok (.invokevirtual 75, 3) := by decide +kernel
theorem dX6_lookUp_39 : decode cX6_lookUp 39 = .ok (.ireturn, 1) := by decide +kernel
theorem k_X6_lookUp_196 : aKV mX6_lookUp mX2_server 196 1 2 := ⟨cb_X2_server, rfl, ml_X6_196, iv_X2_server, sl_X2_server, ⟨_, _, rfl⟩, ⟨Nat.le_of_ble_eq_true rfl, Nat.le_of_ble_eq_true rfl⟩⟩
theorem k_X6_lookUp_143 : aKV mX6_lookUp mX0_isUp 143 1 0 := ⟨cb_X0_isUp, rfl, ml_X6_143, iv_X0_isUp, sl_X0_isUp, ⟨_, _, rfl⟩, ⟨Nat.le_of_ble_eq_true rfl, Nat.le_of_ble_eq_true rfl⟩⟩
theorem k_X6_lookUp_247 : aKV mX6_lookUp mX3_slotOfKey 247 1 3 := ⟨cb_X3_slotOfKey, rfl, ml_X6_247, iv_X3_slotOfKey, sl_X3_slotOfKey, ⟨_, _, rfl⟩, ⟨Nat.le_of_ble_eq_true rfl, Nat.le_of_ble_eq_true rfl⟩⟩
theorem k_X6_lookUp_75 : aKV mX6_lookUp mX3_owner 75 1 3 := ⟨cb_X3_owner, rfl, ml_X6_75, iv_X3_owner, sl_X3_owner, ⟨_, _, rfl⟩, ⟨Nat.le_of_ble_eq_true rfl, Nat.le_of_ble_eq_true rfl⟩⟩
theorem k_X6_serverOf_164 : aKS mX6_serverOf mX6_checkKey 164 1 := ⟨cb_X6_checkKey, rfl, ml_X6_164, st_X6_checkKey, ⟨Nat.le_of_ble_eq_true rfl, Nat.le_of_ble_eq_true rfl⟩⟩
theorem k_X6_serverOf_167 : aKV mX6_serverOf mX6_lookUp 167 1 6 := ⟨cb_X6_lookUp, rfl, ml_X6_167, iv_X6_lookUp, sl_X6_lookUp, ⟨_, _, rfl⟩, ⟨Nat.le_of_ble_eq_true rfl, Nat.le_of_ble_eq_true rfl⟩⟩
theorem k_X6_request_164 : aKS mX6_request mX6_checkKey 164 1 := ⟨cb_X6_checkKey, rfl, ml_X6_164, st_X6_checkKey, ⟨Nat.le_of_ble_eq_true rfl, Nat.le_of_ble_eq_true rfl⟩⟩
theorem k_X6_request_167 : aKV mX6_request mX6_lookUp 167 1 6 := ⟨cb_X6_lookUp, rfl, ml_X6_167, iv_X6_lookUp, sl_X6_lookUp, ⟨_, _, rfl⟩, ⟨Nat.le_of_ble_eq_true rfl, Nat.le_of_ble_eq_true rfl⟩⟩
theorem k_X6_request_173 : aKV mX6_request mX0_addLoad 173 2 0 := ⟨cb_X0_addLoad, rfl, ml_X6_173, iv_X0_addLoad, sl_X0_addLoad, ⟨_, _, rfl⟩, ⟨Nat.le_of_ble_eq_true rfl, Nat.le_of_ble_eq_true rfl⟩⟩
theorem k_X6_request_176 : aKV mX6_request mX5_count 176 2 5 := ⟨cb_X5_count, rfl, ml_X6_176, iv_X5_count, sl_X5_count, ⟨_, _, rfl⟩, ⟨Nat.le_of_ble_eq_true rfl, Nat.le_of_ble_eq_true rfl⟩⟩
theorem k_X6_pin_164 : aKS mX6_pin mX6_checkKey 164 1 := ⟨cb_X6_checkKey, rfl, ml_X6_164, st_X6_checkKey, ⟨Nat.le_of_ble_eq_true rfl, Nat.le_of_ble_eq_true rfl⟩⟩
theorem k_X6_pin_123 : aKV mX6_pin mX6_checkServer 123 1 6 := ⟨cb_X6_checkServer, rfl, ml_X6_123, iv_X6_checkServer, sl_X6_checkServer, ⟨_, _, rfl⟩, ⟨Nat.le_of_ble_eq_true rfl, Nat.le_of_ble_eq_true rfl⟩⟩
theorem k_X6_pin_190 : aKV mX6_pin mX6_checkRoomForPin 190 1 6 := ⟨cb_X6_checkRoomForPin, rfl, ml_X6_190, iv_X6_checkRoomForPin, sl_X6_checkRoomForPin, ⟨_, _, rfl⟩, ⟨Nat.le_of_ble_eq_true rfl, Nat.le_of_ble_eq_true rfl⟩⟩
theorem k_X6_pin_193 : aKV mX6_pin mX2_put 193 2 2 := ⟨cb_X2_put, rfl, ml_X6_193, iv_X2_put, sl_X2_put, ⟨_, _, rfl⟩, ⟨Nat.le_of_ble_eq_true rfl, Nat.le_of_ble_eq_true rfl⟩⟩
theorem k_X6_pin_195 : aKV mX6_pin mX2_size 195 0 2 := ⟨cb_X2_size, rfl, ml_X6_195, iv_X2_size, sl_X2_size, ⟨_, _, rfl⟩, ⟨Nat.le_of_ble_eq_true rfl, Nat.le_of_ble_eq_true rfl⟩⟩
theorem k_X6_unpin_164 : aKS mX6_unpin mX6_checkKey 164 1 := ⟨cb_X6_checkKey, rfl, ml_X6_164, st_X6_checkKey, ⟨Nat.le_of_ble_eq_true rfl, Nat.le_of_ble_eq_true rfl⟩⟩
theorem k_X6_unpin_196 : aKV mX6_unpin mX2_server 196 1 2 := ⟨cb_X2_server, rfl, ml_X6_196, iv_X2_server, sl_X2_server, ⟨_, _, rfl⟩, ⟨Nat.le_of_ble_eq_true rfl, Nat.le_of_ble_eq_true rfl⟩⟩
theorem k_X6_unpin_199 : aKV mX6_unpin mX2_drop 199 1 2 := ⟨cb_X2_drop, rfl, ml_X6_199, iv_X2_drop, sl_X2_drop, ⟨_, _, rfl⟩, ⟨Nat.le_of_ble_eq_true rfl, Nat.le_of_ble_eq_true rfl⟩⟩
theorem k_X6_pinHottest_200 : aKV mX6_pinHottest mX5_size 200 0 5 := ⟨cb_X5_size, rfl, ml_X6_200, iv_X5_size, sl_X5_size, ⟨_, _, rfl⟩, ⟨Nat.le_of_ble_eq_true rfl, Nat.le_of_ble_eq_true rfl⟩⟩
theorem k_X6_pinHottest_179 : aKV mX6_pinHottest mX0_upCount 179 0 0 := ⟨cb_X0_upCount, rfl, ml_X6_179, iv_X0_upCount, sl_X0_upCount, ⟨_, _, rfl⟩, ⟨Nat.le_of_ble_eq_true rfl, Nat.le_of_ble_eq_true rfl⟩⟩
theorem k_X6_pinHottest_205 : aKV mX6_pinHottest mX5_key 205 1 5 := ⟨cb_X5_key, rfl, ml_X6_205, iv_X5_key, sl_X5_key, ⟨_, _, rfl⟩, ⟨Nat.le_of_ble_eq_true rfl, Nat.le_of_ble_eq_true rfl⟩⟩
theorem k_X6_pinHottest_190 : aKV mX6_pinHottest mX6_checkRoomForPin 190 1 6 := ⟨cb_X6_checkRoomForPin, rfl, ml_X6_190, iv_X6_checkRoomForPin, sl_X6_checkRoomForPin, ⟨_, _, rfl⟩, ⟨Nat.le_of_ble_eq_true rfl, Nat.le_of_ble_eq_true rfl⟩⟩
theorem k_X6_pinHottest_187 : aKV mX6_pinHottest mX0_ranked 187 1 0 := ⟨cb_X0_ranked, rfl, ml_X6_187, iv_X0_ranked, sl_X0_ranked, ⟨_, _, rfl⟩, ⟨Nat.le_of_ble_eq_true rfl, Nat.le_of_ble_eq_true rfl⟩⟩
theorem k_X6_pinHottest_193 : aKV mX6_pinHottest mX2_put 193 2 2 := ⟨cb_X2_put, rfl, ml_X6_193, iv_X2_put, sl_X2_put, ⟨_, _, rfl⟩, ⟨Nat.le_of_ble_eq_true rfl, Nat.le_of_ble_eq_true rfl⟩⟩
/-! ===== PreferenceTable: its methods, changes ===== -/
theorem pKe_lt (keep : Int32 → Int32 → Bool) : ∀ (k j : Nat) (σ : pT), σ.2.2 ≤ j → (∃ i, j ≤ i ∧ i < j + k ∧ keep (σ.1 i) (σ.2.1 i) = false) → (aLp (pSt keep) k j σ).2.2 < j + k
  | 0, j, σ, _, ⟨i, h1, h2, _⟩ => by omega
  | k + 1, j, σ, hc, ⟨i, h1, h2, h3⟩ => by
    show (aLp (pSt keep) k (j + 1) (pSt keep j σ)).2.2 < _
    have hh : (pSt keep j σ).2.2 ≤ j + 1 := by
      unfold pSt
      split
      · show σ.2.2 + 1 ≤ j + 1
        omega
      · omega
    rcases Nat.lt_or_ge j i with q | q
    · have hs : (pSt keep j σ).1 i = σ.1 i ∧ (pSt keep j σ).2.1 i = σ.2.1 i := by
        unfold pSt
        split
        · exact ⟨if_neg (by omega), if_neg (by omega)⟩
        · exact ⟨rfl, rfl⟩
      have := pKe_lt keep k (j + 1) (pSt keep j σ) hh ⟨i, by omega, by omega, by rw [hs.1, hs.2]; exact h3⟩
      omega
    · have hij : i = j := by omega
      subst hij
      have hs : pSt keep i σ = σ := by unfold pSt; rw [h3]; rfl
      rw [hs]
      have := pKe_le keep k i σ hc
      have h9 : ∀ (k j : Nat) (σ : pT), (aLp (pSt keep) k j σ).2.2 ≤ σ.2.2 + k := by
        intro k
        induction k with
        | zero => intro j σ; exact Nat.le_refl _
        | succ k ih =>
          intro j σ
          show (aLp (pSt keep) k (j + 1) (pSt keep j σ)).2.2 ≤ _
          have h1 := ih (j + 1) (pSt keep j σ)
          have h2 : (pSt keep j σ).2.2 ≤ σ.2.2 + 1 := by
            unfold pSt
            split
            · exact Nat.le_refl _
            · omega
          omega
      have := h9 k (i + 1) σ
      omega
/-- the pins with a key put anew -/
abbrev pOt (t : fT) (key : Int32) : pT := pKe (fun k _ => decide (¬ k = key)) t.2.2.2.2.1 t.2.2.2.2.2.1 t.2.2.2.2.2.2
theorem pOt_lt {t : fT} {key : Int32} (hm : t.2.2.2.2.2.2 ≤ 6) (h : gRm t key = true) : (pOt t key).2.2 < 6 := by
  simp only [gRm, Bool.or_eq_true, decide_eq_true_eq] at h
  rcases h with h | h
  · cases hf : aFo (fun j => decide (t.2.2.2.2.1 j = key)) t.2.2.2.2.2.2 0 with
    | none => exact absurd (by unfold pKy pSv; rw [hf]) h
    | some i =>
      obtain ⟨h1, h2, h3⟩ := aFo_some hf
      have := pKe_lt (fun k _ => decide (¬ k = key)) t.2.2.2.2.2.2 0 (t.2.2.2.2.1, t.2.2.2.2.2.1, 0) (Nat.le_refl _) ⟨i, h1, h2, by simpa using h3⟩
      unfold pOt pKe
      omega
  · have h1 : t.2.2.2.2.2.2 < 6 := by
      rcases Nat.lt_or_ge t.2.2.2.2.2.2 6 with q | q
      · exact q
      · exact absurd h (nI_nlt (b := 6) q (by omega))
    have := pKe_le (fun k _ => decide (¬ k = key)) t.2.2.2.2.2.2 0 (t.2.2.2.2.1, t.2.2.2.2.2.1, 0) (Nat.le_refl _)
    unfold pOt pKe
    omega
theorem gKy_N {n : Int32} (h : gKy n = true) : ∃ k, k ≤ 99999 ∧ n = nI k := by
  simp only [gKy, Bool.and_eq_true, decide_eq_true_eq] at h
  exact nI_of2 (M := 99999) (n := 99999) (by decide) h.1 h.2
theorem lt10 {n : Int32} (h : ¬ n < 1) : ¬ n < 0 := by
  intro z
  apply h
  rw [Int32.lt_iff_toInt_lt] at z ⊢
  have e0 : (0 : Int32).toInt = 0 := by decide
  have e1 : (1 : Int32).toInt = 1 := by decide
  omega
theorem gWt_N {n : Int32} (h : gWt n = true) : ∃ k, 1 ≤ k ∧ k ≤ 16 ∧ n = nI k := by
  simp only [gWt, Bool.and_eq_true, decide_eq_true_eq] at h
  have h0 : ¬ n < 0 := lt10 h.1
  obtain ⟨k, hk, rfl⟩ := nI_of2 (M := 16) (n := 16) (by decide) h0 h.2
  refine ⟨k, ?_, hk, rfl⟩
  rcases Nat.eq_zero_or_pos k with q | q
  · subst q; exact absurd (by decide) h.1
  · exact q
theorem gNm_N {n : Int32} (h : gNm n = true) : ∃ k, 1 ≤ k ∧ k ≤ 9999 ∧ n = nI k := by
  simp only [gNm, Bool.and_eq_true, decide_eq_true_eq] at h
  have h0 : ¬ n < 0 := lt10 h.1
  obtain ⟨k, hk, rfl⟩ := nI_of2 (M := 9999) (n := 9999) (by decide) h0 h.2
  refine ⟨k, ?_, hk, rfl⟩
  rcases Nat.eq_zero_or_pos k with q | q
  · subst q; exact absurd (by decide) h.1
  · exact q
/-- the server of a key -/
def xLk (t : fT) (b : bT) (kk : Nat) : Int32 := if fUp (cS t).1 (cS t).2.2.1 (pKy t (nI kk)) then pKy t (nI kk) else b.2.1 (sKy b.1 kk)
def gRq (n : Int32) : Bool := decide (¬ n < 1) && decide (n ≤ 1000000)
section PT4
variable {l : Launch} {X : aX} {t : fT} {b : bT} {k : kT} {y : hT}
theorem c_X6_lookUp (ht : fOk t) (hb : bOk b) (kk : Nat) (hk : kk ≤ 99999) : aRd l X mX6_lookUp [0] [.ref 0, .int (nI kk)] (aPT t b k y) (.int (xLk t b kk)) := by
  refine aMt.of (by decide) rfl (Nat.le_of_ble_eq_true rfl) ?_
  have hb1 := hb.1
  refine a_aload_n dX6_lookUp_0 rfl ?_
  refine a_get fl_X6_19 dX6_lookUp_1 rfl rfl ?_
  refine a_iload_n dX6_lookUp_4 rfl ?_
  refine a_ViR [6, 7, 8] k_X6_lookUp_196 (c_X2_server (pk := t.2.2.2.2.1) (ps := t.2.2.2.2.2.1) ht.2.2 (nI kk)) dX6_lookUp_5 rfl rfl rfl rfl rfl rfl (Nat.le_of_ble_eq_true rfl) ⟨Nat.le_of_ble_eq_true rfl, Nat.le_of_ble_eq_true rfl⟩ ⟨rfl, rfl⟩ ?_
  refine a_istore_n dX6_lookUp_8 (by decide) rfl ?_
  refine a_aload_n dX6_lookUp_9 rfl ?_
  refine a_get fl_X6_10 dX6_lookUp_10 rfl rfl ?_
  refine a_iload_n dX6_lookUp_13 rfl ?_
  refine a_ViR [1, 2, 3, 4, 5] k_X6_lookUp_143 (c_X0_isUp (nm := (cS t).1) (wt := (cS t).2.1) (up := (cS t).2.2.1) (ld := (cS t).2.2.2.1) (pKy t (nI kk))) dX6_lookUp_14 rfl rfl rfl rfl rfl rfl (Nat.le_of_ble_eq_true rfl) ⟨Nat.le_of_ble_eq_true rfl, Nat.le_of_ble_eq_true rfl⟩ ⟨rfl, rfl⟩ ?_
  refine a_if_eq 24 dX6_lookUp_17 (by decide) (fun c17 => ?_) (fun c17 => ?_)
  · have ho := c_X3_owner (l := l) (X := X) (ow := b.2.1) (dr := b.2.2.1) (tr := b.2.2.2.1) (ch := b.2.2.2.2.1) (fo := b.2.2.2.2.2) hb.2 (nI (sKy b.1 kk))
    have hs : sKy b.1 kk < b.1 := Nat.mod_lt _ (by omega)
    have hb2 := hb.2
    rw [if_pos (sSl_j hs hb.2), cl61 (by omega)] at ho
    refine a_aload_n dX6_lookUp_24 rfl ?_
    refine a_get fl_X6_28 dX6_lookUp_25 rfl rfl ?_
    refine a_aload_n dX6_lookUp_28 rfl ?_
    refine a_get fl_X6_28 dX6_lookUp_29 rfl rfl ?_
    refine a_iload_n dX6_lookUp_32 rfl ?_
    refine a_ViR [9, 10, 11, 12] k_X6_lookUp_247 (c_X3_slotOfKey (ow := b.2.1) (dr := b.2.2.1) (tr := b.2.2.2.1) (ch := b.2.2.2.2.1) (fo := b.2.2.2.2.2) (by omega) hb.2 kk hk) dX6_lookUp_33 rfl rfl rfl rfl rfl rfl (Nat.le_of_ble_eq_true rfl) ⟨Nat.le_of_ble_eq_true rfl, Nat.le_of_ble_eq_true rfl⟩ ⟨rfl, rfl⟩ ?_
    refine a_ViR [9, 10, 11, 12] k_X6_lookUp_75 (ho) dX6_lookUp_36 rfl rfl rfl rfl rfl rfl (Nat.le_of_ble_eq_true rfl) ⟨Nat.le_of_ble_eq_true rfl, Nat.le_of_ble_eq_true rfl⟩ ⟨rfl, rfl⟩ ?_
    refine a_iret rfl dX6_lookUp_39 (by decide) (by decide) ?_
    exact ⟨by simp [xLk, bI_0 c17], rfl⟩
  · refine a_iload_n dX6_lookUp_20 rfl ?_
    refine a_goto 39 dX6_lookUp_21 (by decide) ?_
    refine a_iret rfl dX6_lookUp_39 (by decide) (by decide) ?_
    exact ⟨by simp [xLk, bI_1 c17], rfl⟩
theorem c_X6_serverOf (hl : l.stackTraces = false) (ht : fOk t) (hb : bOk b) (n : Int32) : aMt l X mX6_serverOf [0] [.ref 0, .int n] (aPT t b k y) (fun o h' => o = (if gKy n then .inl (some (.int (xLk t b n.toNatClampNeg))) else .inr IAE) ∧ h' = aPT t b k y) := by
  refine aMt.of (by decide) rfl (Nat.le_of_ble_eq_true rfl) ?_
  have hck := c_X6_checkKey (X := X) hl n
  by_cases hg : gKy n = true
  · rw [if_pos hg] at hck ⊢
    obtain ⟨kk, hk, rfl⟩ := gKy_N hg
    rw [nI_clamp (by omega)]
    refine a_iload_n dX6_serverOf_0 rfl ?_
    refine a_Sr [] k_X6_serverOf_164 (hck) dX6_serverOf_1 rfl rfl rfl rfl rfl (Nat.le_of_ble_eq_true rfl) ⟨Nat.le_of_ble_eq_true rfl, Nat.le_of_ble_eq_true rfl⟩ ?_
    refine a_aload_n dX6_serverOf_4 rfl ?_
    refine a_iload_n dX6_serverOf_5 rfl ?_
    refine a_ViR is55 k_X6_serverOf_167 (c_X6_lookUp ht hb kk hk) dX6_serverOf_6 rfl rfl rfl rfl rfl rfl (Nat.le_of_ble_eq_true rfl) ⟨Nat.le_of_ble_eq_true rfl, Nat.le_of_ble_eq_true rfl⟩ ⟨rfl, rfl⟩ ?_
    refine a_iret rfl dX6_serverOf_9 (by decide) (by decide) ?_
    exact ⟨rfl, rfl⟩
  · rw [if_neg hg] at hck ⊢
    refine a_iload_n dX6_serverOf_0 rfl ?_
    refine a_Sx [] k_X6_serverOf_164 (hck) dX6_serverOf_1 rfl rfl rfl rfl rfl (Nat.le_of_ble_eq_true rfl) ⟨Nat.le_of_ble_eq_true rfl, Nat.le_of_ble_eq_true rfl⟩ rfl ?_
    exact ⟨rfl, rfl⟩
theorem c_X6_request (hl : l.stackTraces = false) (ht : fOk t) (hb : bOk b) (hk8 : k.2 ≤ 8) (key n : Int32) : aMt l X mX6_request [0] [.ref 0, .int key, .int n] (aPT t b k y) (fun o h' => o = (if gKy key && gRq n then .inl (some (.int (xLk t b key.toNatClampNeg))) else .inr IAE) ∧ h' = (if gKy key && gRq n then aPT (fAld t (xLk t b key.toNatClampNeg) n) b (tCt key n k.1 k.2) y else aPT t b k y)) := by
  refine aMt.of (by decide) rfl (Nat.le_of_ble_eq_true rfl) ?_
  have hck := c_X6_checkKey (X := X) hl key
  by_cases hg : gKy key = true
  · rw [if_pos hg] at hck
    obtain ⟨kk, hk, rfl⟩ := gKy_N hg
    rw [nI_clamp (by omega)]
    refine a_iload_n dX6_request_0 rfl ?_
    refine a_Sr [] k_X6_request_164 (hck) dX6_request_1 rfl rfl rfl rfl rfl (Nat.le_of_ble_eq_true rfl) ⟨Nat.le_of_ble_eq_true rfl, Nat.le_of_ble_eq_true rfl⟩ ?_
    refine a_iload_n dX6_request_4 rfl ?_
    refine a_iconst 1 dX6_request_5 (by decide) ?_
    refine a_icmp_lt 15 dX6_request_6 (by decide) (fun c6 => ?_) (fun c6 => ?_)
    · refine a_throw hl tw_54 tx_X6_171 rfl dX6_request_15 dX6_request_18 dX6_request_19 dX6_request_21 dX6_request_24 ⟨Nat.le_of_ble_eq_true rfl, Nat.le_of_ble_eq_true rfl⟩ (Nat.le_of_ble_eq_true rfl) (Nat.le_of_ble_eq_true rfl) ?_
      have : gRq n = false := by simp [gRq, c6]
      exact ⟨by simp [this], by simp [this]⟩
    · refine a_iload_n dX6_request_9 rfl ?_
      refine a_ldc dX6_request_10 cn_X6_170 ?_
      refine a_icmp_le 25 dX6_request_12 (by decide) (fun c12 => ?_) (fun c12 => ?_)
      · have hr : gRq n = true := by simp [gRq, c6, c12]
        rw [hg, hr]
        refine a_aload_n dX6_request_25 rfl ?_
        refine a_iload_n dX6_request_26 rfl ?_
        refine a_ViR is55 k_X6_request_167 (c_X6_lookUp ht hb kk hk) dX6_request_27 rfl rfl rfl rfl rfl rfl (Nat.le_of_ble_eq_true rfl) ⟨Nat.le_of_ble_eq_true rfl, Nat.le_of_ble_eq_true rfl⟩ ⟨rfl, rfl⟩ ?_
        refine a_istore_n dX6_request_30 (by decide) rfl ?_
        refine a_aload_n dX6_request_31 rfl ?_
        refine a_get fl_X6_10 dX6_request_32 rfl rfl ?_
        refine a_iload_n dX6_request_35 rfl ?_
        refine a_iload_n dX6_request_36 rfl ?_
        refine a_VvW [1, 2, 3, 4, 5] (aPT (fAld t (xLk t b kk) n) b k y) k_X6_request_173 (c_X0_addLoad (nm := (cS t).1) (wt := (cS t).2.1) (up := (cS t).2.2.1) (ld := (cS t).2.2.2.1) (xLk t b kk) n) dX6_request_37 rfl rfl rfl rfl rfl rfl (Nat.le_of_ble_eq_true rfl) ⟨Nat.le_of_ble_eq_true rfl, Nat.le_of_ble_eq_true rfl⟩ ⟨rfl, rfl⟩ (Nat.le_of_ble_eq_true rfl) rfl ?_
        refine a_aload_n dX6_request_40 rfl ?_
        refine a_get fl_X6_35 dX6_request_41 rfl rfl ?_
        refine a_iload_n dX6_request_44 rfl ?_
        refine a_iload_n dX6_request_45 rfl ?_
        refine a_VvW [13, 14, 15, 16] (aPT (fAld t (xLk t b kk) n) b (tCt (nI kk) n k.1 k.2) y) k_X6_request_176 (c_X5_count (tk := k.1.1) (tc := k.1.2.1) (te := k.1.2.2) hk8 (nI kk) n) dX6_request_46 rfl rfl rfl rfl rfl rfl (Nat.le_of_ble_eq_true rfl) ⟨Nat.le_of_ble_eq_true rfl, Nat.le_of_ble_eq_true rfl⟩ ⟨rfl, rfl⟩ (Nat.le_of_ble_eq_true rfl) rfl ?_
        refine a_iload_n dX6_request_49 rfl ?_
        refine a_iret rfl dX6_request_50 (by decide) (by decide) ?_
        exact ⟨rfl, rfl⟩
      · refine a_throw hl tw_54 tx_X6_171 rfl dX6_request_15 dX6_request_18 dX6_request_19 dX6_request_21 dX6_request_24 ⟨Nat.le_of_ble_eq_true rfl, Nat.le_of_ble_eq_true rfl⟩ (Nat.le_of_ble_eq_true rfl) (Nat.le_of_ble_eq_true rfl) ?_
        have : gRq n = false := by simp [gRq, c12]
        exact ⟨by simp [this], by simp [this]⟩
  · rw [if_neg hg] at hck
    refine a_iload_n dX6_request_0 rfl ?_
    refine a_Sx [] k_X6_request_164 (hck) dX6_request_1 rfl rfl rfl rfl rfl (Nat.le_of_ble_eq_true rfl) ⟨Nat.le_of_ble_eq_true rfl, Nat.le_of_ble_eq_true rfl⟩ rfl ?_
    have : gKy key = false := by simpa using hg
    exact ⟨by simp [this], by simp [this]⟩
theorem c_X6_pin (hl : l.stackTraces = false) (ht : fOk t) (key s : Int32) : aMt l X mX6_pin [0] [.ref 0, .int key, .int s] (aPT t b k y) (fun o h' => o = (if gKy key && fHs (cS t).1 s then (if gRm t key then .inl (some (.int (nI (pAp key s (pOt t key)).2.2))) else .inr ISE) else .inr IAE) ∧ h' = (if gKy key && fHs (cS t).1 s && gRm t key then aPT (fPin t (pAp key s (pOt t key))) b k y else aPT t b k y)) := by
  refine aMt.of (by decide) rfl (Nat.le_of_ble_eq_true rfl) ?_
  have hck := c_X6_checkKey (X := X) hl key
  by_cases hg : gKy key = true
  · rw [if_pos hg] at hck
    have hcs := c_X6_checkServer (X := X) (t := t) (b := b) (k := k) (y := y) hl s
    by_cases hs : fHs (cS t).1 s = true
    · rw [if_pos hs] at hcs
      have hcr := c_X6_checkRoomForPin (X := X) (t := t) (b := b) (k := k) (y := y) hl ht.2.2 key
      by_cases hr : gRm t key = true
      · rw [if_pos hr] at hcr
        rw [hg, hs, hr]
        refine a_iload_n dX6_pin_0 rfl ?_
        refine a_Sr [] k_X6_pin_164 (hck) dX6_pin_1 rfl rfl rfl rfl rfl (Nat.le_of_ble_eq_true rfl) ⟨Nat.le_of_ble_eq_true rfl, Nat.le_of_ble_eq_true rfl⟩ ?_
        refine a_aload_n dX6_pin_4 rfl ?_
        refine a_iload_n dX6_pin_5 rfl ?_
        refine a_Vr is55 k_X6_pin_123 (hcs) dX6_pin_6 rfl rfl rfl rfl rfl rfl (Nat.le_of_ble_eq_true rfl) ⟨Nat.le_of_ble_eq_true rfl, Nat.le_of_ble_eq_true rfl⟩ ?_
        refine a_aload_n dX6_pin_9 rfl ?_
        refine a_iload_n dX6_pin_10 rfl ?_
        refine a_Vr is55 k_X6_pin_190 (hcr) dX6_pin_11 rfl rfl rfl rfl rfl rfl (Nat.le_of_ble_eq_true rfl) ⟨Nat.le_of_ble_eq_true rfl, Nat.le_of_ble_eq_true rfl⟩ ?_
        refine a_aload_n dX6_pin_14 rfl ?_
        refine a_get fl_X6_19 dX6_pin_15 rfl rfl ?_
        refine a_iload_n dX6_pin_18 rfl ?_
        refine a_iload_n dX6_pin_19 rfl ?_
        refine a_VvW [6, 7, 8] (aPT (fPin t (pAp key s (pOt t key))) b k y) k_X6_pin_193 (c_X2_put (pk := t.2.2.2.2.1) (ps := t.2.2.2.2.2.1) ht.2.2 key s (pOt_lt ht.2.2 hr)) dX6_pin_20 rfl rfl rfl rfl rfl rfl (Nat.le_of_ble_eq_true rfl) ⟨Nat.le_of_ble_eq_true rfl, Nat.le_of_ble_eq_true rfl⟩ ⟨rfl, rfl⟩ (Nat.le_of_ble_eq_true rfl) rfl ?_
        refine a_aload_n dX6_pin_23 rfl ?_
        refine a_get fl_X6_19 dX6_pin_24 rfl rfl ?_
        refine a_ViR [6, 7, 8] k_X6_pin_195 (c_X2_size (pk := (pAp key s (pOt t key)).1) (ps := (pAp key s (pOt t key)).2.1) (m := (pAp key s (pOt t key)).2.2)) dX6_pin_27 rfl rfl rfl rfl rfl rfl (Nat.le_of_ble_eq_true rfl) ⟨Nat.le_of_ble_eq_true rfl, Nat.le_of_ble_eq_true rfl⟩ ⟨rfl, rfl⟩ ?_
        refine a_iret rfl dX6_pin_30 (by decide) (by decide) ?_
        exact ⟨rfl, rfl⟩
      · rw [if_neg hr] at hcr
        have hr : gRm t key = false := by simpa using hr
        rw [hg, hs, hr]
        refine a_iload_n dX6_pin_0 rfl ?_
        refine a_Sr [] k_X6_pin_164 (hck) dX6_pin_1 rfl rfl rfl rfl rfl (Nat.le_of_ble_eq_true rfl) ⟨Nat.le_of_ble_eq_true rfl, Nat.le_of_ble_eq_true rfl⟩ ?_
        refine a_aload_n dX6_pin_4 rfl ?_
        refine a_iload_n dX6_pin_5 rfl ?_
        refine a_Vr is55 k_X6_pin_123 (hcs) dX6_pin_6 rfl rfl rfl rfl rfl rfl (Nat.le_of_ble_eq_true rfl) ⟨Nat.le_of_ble_eq_true rfl, Nat.le_of_ble_eq_true rfl⟩ ?_
        refine a_aload_n dX6_pin_9 rfl ?_
        refine a_iload_n dX6_pin_10 rfl ?_
        refine a_Vx is55 k_X6_pin_190 (hcr) dX6_pin_11 rfl rfl rfl rfl rfl rfl (Nat.le_of_ble_eq_true rfl) ⟨Nat.le_of_ble_eq_true rfl, Nat.le_of_ble_eq_true rfl⟩ rfl ?_
        exact ⟨rfl, rfl⟩
    · rw [if_neg hs] at hcs
      have hs : fHs (cS t).1 s = false := by simpa using hs
      rw [hg, hs]
      refine a_iload_n dX6_pin_0 rfl ?_
      refine a_Sr [] k_X6_pin_164 (hck) dX6_pin_1 rfl rfl rfl rfl rfl (Nat.le_of_ble_eq_true rfl) ⟨Nat.le_of_ble_eq_true rfl, Nat.le_of_ble_eq_true rfl⟩ ?_
      refine a_aload_n dX6_pin_4 rfl ?_
      refine a_iload_n dX6_pin_5 rfl ?_
      refine a_Vx is55 k_X6_pin_123 (hcs) dX6_pin_6 rfl rfl rfl rfl rfl rfl (Nat.le_of_ble_eq_true rfl) ⟨Nat.le_of_ble_eq_true rfl, Nat.le_of_ble_eq_true rfl⟩ rfl ?_
      exact ⟨rfl, rfl⟩
  · rw [if_neg hg] at hck
    have hg : gKy key = false := by simpa using hg
    rw [hg]
    refine a_iload_n dX6_pin_0 rfl ?_
    refine a_Sx [] k_X6_pin_164 (hck) dX6_pin_1 rfl rfl rfl rfl rfl (Nat.le_of_ble_eq_true rfl) ⟨Nat.le_of_ble_eq_true rfl, Nat.le_of_ble_eq_true rfl⟩ rfl ?_
    exact ⟨rfl, rfl⟩
theorem c_X6_unpin (hl : l.stackTraces = false) (ht : fOk t) (key : Int32) : aMt l X mX6_unpin [0] [.ref 0, .int key] (aPT t b k y) (fun o h' => o = (if gKy key then .inl (some (.int (pKy t key))) else .inr IAE) ∧ h' = (if gKy key then aPT (fPin t (pOt t key)) b k y else aPT t b k y)) := by
  refine aMt.of (by decide) rfl (Nat.le_of_ble_eq_true rfl) ?_
  have hck := c_X6_checkKey (X := X) hl key
  by_cases hg : gKy key = true
  · rw [if_pos hg] at hck
    rw [if_pos hg, if_pos hg]
    refine a_iload_n dX6_unpin_0 rfl ?_
    refine a_Sr [] k_X6_unpin_164 (hck) dX6_unpin_1 rfl rfl rfl rfl rfl (Nat.le_of_ble_eq_true rfl) ⟨Nat.le_of_ble_eq_true rfl, Nat.le_of_ble_eq_true rfl⟩ ?_
    refine a_aload_n dX6_unpin_4 rfl ?_
    refine a_get fl_X6_19 dX6_unpin_5 rfl rfl ?_
    refine a_iload_n dX6_unpin_8 rfl ?_
    refine a_ViR [6, 7, 8] k_X6_unpin_196 (c_X2_server (pk := t.2.2.2.2.1) (ps := t.2.2.2.2.2.1) ht.2.2 key) dX6_unpin_9 rfl rfl rfl rfl rfl rfl (Nat.le_of_ble_eq_true rfl) ⟨Nat.le_of_ble_eq_true rfl, Nat.le_of_ble_eq_true rfl⟩ ⟨rfl, rfl⟩ ?_
    refine a_istore_n dX6_unpin_12 (by decide) rfl ?_
    refine a_aload_n dX6_unpin_13 rfl ?_
    refine a_get fl_X6_19 dX6_unpin_14 rfl rfl ?_
    refine a_iload_n dX6_unpin_17 rfl ?_
    refine a_VvW [6, 7, 8] (aPT (fPin t (pOt t key)) b k y) k_X6_unpin_199 (c_X2_drop (pk := t.2.2.2.2.1) (ps := t.2.2.2.2.2.1) ht.2.2 key) dX6_unpin_18 rfl rfl rfl rfl rfl rfl (Nat.le_of_ble_eq_true rfl) ⟨Nat.le_of_ble_eq_true rfl, Nat.le_of_ble_eq_true rfl⟩ ⟨rfl, rfl⟩ (Nat.le_of_ble_eq_true rfl) rfl ?_
    refine a_iload_n dX6_unpin_21 rfl ?_
    refine a_iret rfl dX6_unpin_22 (by decide) (by decide) ?_
    exact ⟨rfl, rfl⟩
  · rw [if_neg hg] at hck
    rw [if_neg hg, if_neg hg]
    refine a_iload_n dX6_unpin_0 rfl ?_
    refine a_Sx [] k_X6_unpin_164 (hck) dX6_unpin_1 rfl rfl rfl rfl rfl (Nat.le_of_ble_eq_true rfl) ⟨Nat.le_of_ble_eq_true rfl, Nat.le_of_ble_eq_true rfl⟩ rfl ?_
    exact ⟨rfl, rfl⟩
abbrev xHs (t : fT) : Int32 := fRd (cS t).1 (cS t).2.1 (cS t).2.2.1 (cS t).2.2.2.1 (fUc (cS t).1 (cS t).2.2.1 - 1)
def gPh (t : fT) (k : kT) : Bool := decide (¬ nI k.2 = 0) && (decide (¬ fUc (cS t).1 (cS t).2.2.1 = 0) && gRm t (k.1.1 0))
theorem c_X6_pinHottest (hl : l.stackTraces = false) (ht : fOk t) (hk8 : k.2 ≤ 8) : aMt l X mX6_pinHottest [0] [.ref 0] (aPT t b k y) (fun o h' => o = (if gPh t k then .inl (some (.int (xHs t))) else .inr ISE) ∧ h' = (if gPh t k then aPT (fPin t (pAp (k.1.1 0) (xHs t) (pOt t (k.1.1 0)))) b k y else aPT t b k y)) := by
  refine aMt.of (by decide) rfl (Nat.le_of_ble_eq_true rfl) ?_
  refine a_aload_n dX6_pinHottest_0 rfl ?_
  refine a_get fl_X6_35 dX6_pinHottest_1 rfl rfl ?_
  refine a_ViR [13, 14, 15, 16] k_X6_pinHottest_200 (c_X5_size (tk := k.1.1) (tc := k.1.2.1) (te := k.1.2.2) (m := k.2)) dX6_pinHottest_4 rfl rfl rfl rfl rfl rfl (Nat.le_of_ble_eq_true rfl) ⟨Nat.le_of_ble_eq_true rfl, Nat.le_of_ble_eq_true rfl⟩ ⟨rfl, rfl⟩ ?_
  refine a_if_ne 20 dX6_pinHottest_7 (by decide) (fun c7 => ?_) (fun c7 => ?_)
  · have h0 : 0 < k.2 := by
      rcases Nat.eq_zero_or_pos k.2 with q | q
      · rw [q] at c7; exact absurd rfl c7
      · exact q
    refine a_aload_n dX6_pinHottest_20 rfl ?_
    refine a_get fl_X6_10 dX6_pinHottest_21 rfl rfl ?_
    refine a_ViR [1, 2, 3, 4, 5] k_X6_pinHottest_179 (c_X0_upCount (nm := (cS t).1) (wt := (cS t).2.1) (up := (cS t).2.2.1) (ld := (cS t).2.2.2.1)) dX6_pinHottest_24 rfl rfl rfl rfl rfl rfl (Nat.le_of_ble_eq_true rfl) ⟨Nat.le_of_ble_eq_true rfl, Nat.le_of_ble_eq_true rfl⟩ ⟨rfl, rfl⟩ ?_
    refine a_istore_n dX6_pinHottest_27 (by decide) rfl ?_
    refine a_iload_n dX6_pinHottest_28 rfl ?_
    refine a_if_ne 42 dX6_pinHottest_29 (by decide) (fun c29 => ?_) (fun c29 => ?_)
    · have hcr := c_X6_checkRoomForPin (X := X) (t := t) (b := b) (k := k) (y := y) hl ht.2.2 (k.1.1 0)
      have hk0 := c_X5_key_j (l := l) (X := X) (tk := k.1.1) (tc := k.1.2.1) (te := k.1.2.2) h0 hk8
      by_cases hr : gRm t (k.1.1 0) = true
      · rw [if_pos hr] at hcr
        have hg : gPh t k = true := by simp [gPh, c7, c29, hr]
        rw [if_pos hg, if_pos hg]
        refine a_aload_n dX6_pinHottest_42 rfl ?_
        refine a_get fl_X6_35 dX6_pinHottest_43 rfl rfl ?_
        refine a_iconst 0 dX6_pinHottest_46 (by decide) ?_
        refine a_ViR [13, 14, 15, 16] k_X6_pinHottest_205 (hk0) dX6_pinHottest_47 rfl rfl rfl rfl rfl rfl (Nat.le_of_ble_eq_true rfl) ⟨Nat.le_of_ble_eq_true rfl, Nat.le_of_ble_eq_true rfl⟩ ⟨rfl, rfl⟩ ?_
        refine a_istore_n dX6_pinHottest_50 (by decide) rfl ?_
        refine a_aload_n dX6_pinHottest_51 rfl ?_
        refine a_iload_n dX6_pinHottest_52 rfl ?_
        refine a_Vr is55 k_X6_pinHottest_190 (hcr) dX6_pinHottest_53 rfl rfl rfl rfl rfl rfl (Nat.le_of_ble_eq_true rfl) ⟨Nat.le_of_ble_eq_true rfl, Nat.le_of_ble_eq_true rfl⟩ ?_
        refine a_aload_n dX6_pinHottest_56 rfl ?_
        refine a_get fl_X6_10 dX6_pinHottest_57 rfl rfl ?_
        refine a_iload_n dX6_pinHottest_60 rfl ?_
        refine a_iconst 1 dX6_pinHottest_61 (by decide) ?_
        refine a_isub dX6_pinHottest_62 ?_
        refine a_ViR [1, 2, 3, 4, 5] k_X6_pinHottest_187 (c_X0_ranked (nm := (cS t).1) (wt := (cS t).2.1) (up := (cS t).2.2.1) (ld := (cS t).2.2.2.1) (fUc (cS t).1 (cS t).2.2.1 - 1)) dX6_pinHottest_63 rfl rfl rfl rfl rfl rfl (Nat.le_of_ble_eq_true rfl) ⟨Nat.le_of_ble_eq_true rfl, Nat.le_of_ble_eq_true rfl⟩ ⟨rfl, rfl⟩ ?_
        refine a_istore_n dX6_pinHottest_66 (by decide) rfl ?_
        refine a_aload_n dX6_pinHottest_67 rfl ?_
        refine a_get fl_X6_19 dX6_pinHottest_68 rfl rfl ?_
        refine a_iload_n dX6_pinHottest_71 rfl ?_
        refine a_iload_n dX6_pinHottest_72 rfl ?_
        refine a_VvW [6, 7, 8] (aPT (fPin t (pAp (k.1.1 0) (xHs t) (pOt t (k.1.1 0)))) b k y) k_X6_pinHottest_193 (c_X2_put (pk := t.2.2.2.2.1) (ps := t.2.2.2.2.2.1) ht.2.2 (k.1.1 0) (xHs t) (pOt_lt ht.2.2 hr)) dX6_pinHottest_73 rfl rfl rfl rfl rfl rfl (Nat.le_of_ble_eq_true rfl) ⟨Nat.le_of_ble_eq_true rfl, Nat.le_of_ble_eq_true rfl⟩ ⟨rfl, rfl⟩ (Nat.le_of_ble_eq_true rfl) rfl ?_
        refine a_iload_n dX6_pinHottest_76 rfl ?_
        refine a_iret rfl dX6_pinHottest_77 (by decide) (by decide) ?_
        exact ⟨rfl, rfl⟩
      · rw [if_neg hr] at hcr
        have hg : ¬ gPh t k = true := by simp [gPh, hr]
        rw [if_neg hg, if_neg hg]
        refine a_aload_n dX6_pinHottest_42 rfl ?_
        refine a_get fl_X6_35 dX6_pinHottest_43 rfl rfl ?_
        refine a_iconst 0 dX6_pinHottest_46 (by decide) ?_
        refine a_ViR [13, 14, 15, 16] k_X6_pinHottest_205 (hk0) dX6_pinHottest_47 rfl rfl rfl rfl rfl rfl (Nat.le_of_ble_eq_true rfl) ⟨Nat.le_of_ble_eq_true rfl, Nat.le_of_ble_eq_true rfl⟩ ⟨rfl, rfl⟩ ?_
        refine a_istore_n dX6_pinHottest_50 (by decide) rfl ?_
        refine a_aload_n dX6_pinHottest_51 rfl ?_
        refine a_iload_n dX6_pinHottest_52 rfl ?_
        refine a_Vx is55 k_X6_pinHottest_190 (hcr) dX6_pinHottest_53 rfl rfl rfl rfl rfl rfl (Nat.le_of_ble_eq_true rfl) ⟨Nat.le_of_ble_eq_true rfl, Nat.le_of_ble_eq_true rfl⟩ rfl ?_
        exact ⟨rfl, rfl⟩
    · refine a_throw hl tw_105 tx_X6_203 rfl dX6_pinHottest_32 dX6_pinHottest_35 dX6_pinHottest_36 dX6_pinHottest_38 dX6_pinHottest_41 ⟨Nat.le_of_ble_eq_true rfl, Nat.le_of_ble_eq_true rfl⟩ (Nat.le_of_ble_eq_true rfl) (Nat.le_of_ble_eq_true rfl) ?_
      have hg : ¬ gPh t k = true := by simp [gPh, c29]
      rw [if_neg hg, if_neg hg]
      exact ⟨rfl, rfl⟩
  · refine a_throw hl tw_105 tx_X6_201 rfl dX6_pinHottest_10 dX6_pinHottest_13 dX6_pinHottest_14 dX6_pinHottest_16 dX6_pinHottest_19 ⟨Nat.le_of_ble_eq_true rfl, Nat.le_of_ble_eq_true rfl⟩ (Nat.le_of_ble_eq_true rfl) (Nat.le_of_ble_eq_true rfl) ?_
    have hg : ¬ gPh t k = true := by simp [gPh, c7]
    rw [if_neg hg, if_neg hg]
    exact ⟨rfl, rfl⟩
end PT4
end
section
/-! written by wip/whole/pp.py out of wip/whole/src/26.pt5.lean -/
theorem dX6_reset_0 : decode cX6_reset 0 = .ok (.iload_n 1, 1) := by decide +kernel
theorem dX6_reset_1 : decode cX6_reset 1 = .ok (.invokestatic 46, 3) := by decide +kernel
theorem dX6_reset_4 : decode cX6_reset 4 = .ok (.ifCond .ne 13, 3) := by decide +kernel
theorem dX6_reset_7 : decode cX6_reset 7 = .ok (.new 50, 3) := by decide +kernel
theorem dX6_reset_10 : decode cX6_reset 10 = .ok (.dup, 1) := by decide +kernel
theorem dX6_reset_11 : decode cX6_reset 11 = .ok (.ldc 52, 2) := by decide +kernel
theorem dX6_reset_13 : decode cX6_reset 13 = .ok (.invokespecial 54, 3) := by decide +kernel
theorem dX6_reset_16 : decode cX6_reset 16 = .ok (.athrow, 1) := by decide +kernel
theorem dX6_reset_17 : decode cX6_reset 17 = .ok (.aload_n 0, 1) := by decide +kernel
theorem dX6_reset_18 : decode cX6_reset 18 = .ok (.getfield 28, 3) := by decide +kernel
theorem dX6_reset_21 : decode cX6_reset 21 = .ok (.invokevirtual 57, 3) := by decide +kernel
theorem dX6_reset_24 : decode cX6_reset 24 = .ok (.istore_n 2, 1) := by decide +kernel
theorem dX6_reset_25 : decode cX6_reset 25 = .ok (.aload_n 0, 1) := by decide +kernel
theorem dX6_reset_26 : decode cX6_reset 26 = .ok (.getfield 10, 3) := by decide +kernel
theorem dX6_reset_29 : decode cX6_reset 29 = .ok (.invokevirtual 61, 3) := by decide +kernel
theorem dX6_reset_32 : decode cX6_reset 32 = .ok (.aload_n 0, 1) := by decide +kernel
theorem dX6_reset_33 : decode cX6_reset 33 = .ok (.getfield 19, 3) := by decide +kernel
theorem dX6_reset_36 : decode cX6_reset 36 = .ok (.invokevirtual 64, 3) := by decide +kernel
theorem dX6_reset_39 : decode cX6_reset 39 = .ok (.aload_n 0, 1) := by decide +kernel
theorem dX6_reset_40 : decode cX6_reset 40 = .ok (.getfield 35, 3) := by decide +kernel
theorem dX6_reset_43 : decode cX6_reset 43 = .ok (.invokevirtual 65, 3) := by decide +kernel
theorem dX6_reset_46 : decode cX6_reset 46 = .ok (.aload_n 0, 1) := by decide +kernel
theorem dX6_reset_47 : decode cX6_reset 47 = .ok (.getfield 42, 3) := by decide +kernel
theorem dX6_reset_50 : decode cX6_reset 50 = .ok (.invokevirtual 66, 3) := by decide +kernel
theorem dX6_reset_53 : decode cX6_reset 53 = .ok (.aload_n 0, 1) := by decide +kernel
theorem dX6_reset_54 : decode cX6_reset 54 = .ok (.getfield 28, 3) := by decide +kernel
theorem dX6_reset_57 : decode cX6_reset 57 = .ok (.iload_n 1, 1) := by decide +kernel
theorem dX6_reset_58 : decode cX6_reset 58 = .ok (.invokevirtual 67, 3) := by decide +kernel
theorem dX6_reset_61 : decode cX6_reset 61 = .ok (.iload_n 2, 1) := by decide +kernel
theorem dX6_reset_62 : decode cX6_reset 62 = .ok (.ireturn, 1) := by decide +kernel
theorem dX6_imbalance_0 : decode cX6_imbalance 0 = .ok (.dconst 0, 1) := by decide +kernel
theorem dX6_imbalance_1 : decode cX6_imbalance 1 = .ok (.dstore_n 1, 1) := by decide +kernel
theorem dX6_imbalance_2 : decode cX6_imbalance 2 = .ok (.iconst 0, 1) := by decide +kernel
theorem dX6_imbalance_3 : decode cX6_imbalance 3 = .ok (.istore_n 3, 1) := by decide +kernel
theorem dX6_imbalance_4 : decode cX6_imbalance 4 = .ok (.iload_n 3, 1) := by decide +kernel
theorem dX6_imbalance_5 : decode cX6_imbalance 5 = .ok (.bipush 10, 2) := by decide +kernel
theorem dX6_imbalance_7 : decode cX6_imbalance 7 = .ok (.if_icmp .ge 51, 3) := by decide +kernel
theorem dX6_imbalance_10 : decode cX6_imbalance 10 = .ok (.aload_n 0, 1) := by decide +kernel
theorem dX6_imbalance_11 : decode cX6_imbalance 11 = .ok (.iload_n 3, 1) := by decide +kernel
theorem dX6_imbalance_12 : decode cX6_imbalance 12 = .ok (.invokevirtual 85, 3) := by decide +kernel
theorem dX6_imbalance_15 : decode cX6_imbalance 15 = .ok (.dstore 4, 2) := by decide +kernel
theorem dX6_imbalance_17 : decode cX6_imbalance 17 = .ok (.dload 4, 2) := by decide +kernel
theorem dX6_imbalance_19 : decode cX6_imbalance 19 = .ok (.dconst 0, 1) := by decide +kernel
theorem dX6_imbalance_20 : decode cX6_imbalance 20 = .ok (.dcmp .l, 1) := by decide +kernel
theorem dX6_imbalance_21 : decode cX6_imbalance 21 = .ok (.ifCond .le 31, 3) := by decide +kernel
theorem dX6_imbalance_24 : decode cX6_imbalance 24 = .ok (.aload_n 0, 1) := by decide +kernel
theorem dX6_imbalance_25 : decode cX6_imbalance 25 = .ok (.getfield 28, 3) := by decide +kernel
theorem dX6_imbalance_28 : decode cX6_imbalance 28 = .ok (.iload_n 3, 1) := by decide +kernel
theorem dX6_imbalance_29 : decode cX6_imbalance 29 = .ok (.invokevirtual 89, 3) := by decide +kernel
theorem dX6_imbalance_32 : decode cX6_imbalance 32 = .ok (.i2d, 1) := by decide +kernel
theorem dX6_imbalance_33 : decode cX6_imbalance 33 = .ok (.dload 4, 2) := by decide +kernel
theorem dX6_imbalance_35 : decode cX6_imbalance 35 = .ok (.ddiv, 1) := by decide +kernel
theorem dX6_imbalance_36 : decode cX6_imbalance 36 = .ok (.dstore 6, 2) := by decide +kernel
theorem dX6_imbalance_38 : decode cX6_imbalance 38 = .ok (.dload 6, 2) := by decide +kernel
theorem dX6_imbalance_40 : decode cX6_imbalance 40 = .ok (.dload_n 1, 1) := by decide +kernel
theorem dX6_imbalance_41 : decode cX6_imbalance 41 = .ok (.dcmp .l, 1) := by decide +kernel
theorem dX6_imbalance_42 : decode cX6_imbalance 42 = .ok (.ifCond .le 8, 3) := by decide +kernel
theorem dX6_imbalance_45 : decode cX6_imbalance 45 = .ok (.dload 6, 2) := by decide +kernel
theorem dX6_imbalance_47 : decode cX6_imbalance 47 = .ok (.goto 4, 3) := by decide +kernel
theorem dX6_imbalance_50 : decode cX6_imbalance 50 = .ok (.dload_n 1, 1) := by decide +kernel
theorem dX6_imbalance_51 : decode cX6_imbalance 51 = .ok (.dstore_n 1, 1) := by decide +kernel
theorem dX6_imbalance_52 : decode cX6_imbalance 52 = .ok (.iinc 3 1, 3) := by decide +kernel
theorem dX6_imbalance_55 : decode cX6_imbalance 55 = .ok (.goto (-51), 3) := by decide +kernel
theorem dX6_imbalance_58 : decode cX6_imbalance 58 = .ok (.dload_n 1, 1) := by decide +kernel
theorem dX6_imbalance_59 : decode cX6_imbalance 59 = .ok (.dreturn, 1) := by decide +kernel
theorem dX6_addServer_0 : decode cX6_addServer 0 = .ok (.iload_n 1, 1) := by decide +kernel
theorem dX6_addServer_1 : decode cX6_addServer 1 = .ok (.invokestatic 92, 3) := by decide +kernel
theorem dX6_addServer_4 : decode cX6_addServer 4 = .ok (.iload_n 2, 1) := by decide +kernel
theorem dX6_addServer_5 : decode cX6_addServer 5 = .ok (.invokestatic 95, 3) := by decide +kernel
theorem dX6_addServer_8 : decode cX6_addServer 8 = .ok (.aload_n 0, 1) := by decide +kernel
theorem dX6_addServer_9 : decode cX6_addServer 9 = .ok (.getfield 10, 3) := by decide +kernel
theorem dX6_addServer_12 : decode cX6_addServer 12 = .ok (.iload_n 1, 1) := by decide +kernel
theorem dX6_addServer_13 : decode cX6_addServer 13 = .ok (.invokevirtual 98, 3) := by decide +kernel
theorem dX6_addServer_16 : decode cX6_addServer 16 = .ok (.iconst (-1), 1) := by decide +kernel
theorem dX6_addServer_17 : decode cX6_addServer 17 = .ok (.if_icmp .eq 13, 3) := by decide +kernel
theorem dX6_addServer_20 : decode cX6_addServer 20 = .ok (.new 101, 3) := by decide +kernel
theorem dX6_addServer_23 : decode cX6_addServer 23 = .ok (.dup, 1) := by decide +kernel
theorem dX6_addServer_24 : decode cX6_addServer 24 = .ok (.ldc 103, 2) := by decide +kernel
theorem dX6_addServer_26 : decode cX6_addServer 26 = .ok (.invokespecial 105, 3) := by decide +kernel
theorem dX6_addServer_29 : decode cX6_addServer 29 = .ok (.athrow, 1) := by decide +kernel
theorem dX6_addServer_30 : decode cX6_addServer 30 = .ok (.aload_n 0, 1) := by decide +kernel
theorem dX6_addServer_31 : decode cX6_addServer 31 = .ok (.getfield 10, 3) := by decide +kernel
theorem dX6_addServer_34 : decode cX6_addServer 34 = .ok (.invokevirtual 106, 3) := by decide +kernel
theorem dX6_addServer_37 : decode cX6_addServer 37 = .ok (.istore_n 3, 1) := by decide +kernel
theorem dX6_addServer_38 : decode cX6_addServer 38 = .ok (.iload_n 3, 1) := by decide +kernel
theorem dX6_addServer_39 : decode cX6_addServer 39 = .ok (.iconst (-1), 1) := by decide +kernel
theorem dX6_addServer_40 : decode cX6_addServer 40 = .ok (.if_icmp .ne 13, 3) := by decide +kernel
theorem dX6_addServer_43 : decode cX6_addServer 43 = .ok (.new 101, 3) := by decide +kernel
theorem dX6_addServer_46 : decode cX6_addServer 46 = .ok (.dup, 1) := by decide +kernel
theorem dX6_addServer_47 : decode cX6_addServer 47 = .ok (.ldc 109, 2) := by decide +kernel
theorem dX6_addServer_49 : decode cX6_addServer 49 = .ok (.invokespecial 105, 3) := by decide +kernel
theorem dX6_addServer_52 : decode cX6_addServer 52 = .ok (.athrow, 1) := by decide +kernel
theorem dX6_addServer_53 : decode cX6_addServer 53 = .ok (.aload_n 0, 1) := by decide +kernel
theorem dX6_addServer_54 : decode cX6_addServer 54 = .ok (.getfield 42, 3) := by decide +kernel
theorem dX6_addServer_57 : decode cX6_addServer 57 = .ok (.aload_n 0, 1) := by decide +kernel
theorem dX6_addServer_58 : decode cX6_addServer 58 = .ok (.getfield 10, 3) := by decide +kernel
theorem dX6_addServer_61 : decode cX6_addServer 61 = .ok (.aload_n 0, 1) := by decide +kernel
theorem dX6_addServer_62 : decode cX6_addServer 62 = .ok (.getfield 19, 3) := by decide +kernel
theorem dX6_addServer_65 : decode cX6_addServer 65 = .ok (.invokevirtual 111, 3) := by decide +kernel
theorem dX6_addServer_68 : decode cX6_addServer 68 = .ok (.aload_n 0, 1) := by decide +kernel
theorem dX6_addServer_69 : decode cX6_addServer 69 = .ok (.getfield 10, 3) := by decide +kernel
theorem dX6_addServer_72 : decode cX6_addServer 72 = .ok (.iload_n 3, 1) := by decide +kernel
theorem dX6_addServer_73 : decode cX6_addServer 73 = .ok (.iload_n 1, 1) := by decide +kernel
theorem dX6_addServer_74 : decode cX6_addServer 74 = .ok (.iload_n 2, 1) := by decide +kernel
theorem dX6_addServer_75 : decode cX6_addServer 75 = .ok (.invokevirtual 115, 3) := by decide +kernel
theorem dX6_addServer_78 : decode cX6_addServer 78 = .ok (.aload_n 0, 1) := by decide +kernel
theorem dX6_addServer_79 : decode cX6_addServer 79 = .ok (.getfield 28, 3) := by decide +kernel
theorem dX6_addServer_82 : decode cX6_addServer 82 = .ok (.aload_n 0, 1) := by decide +kernel
theorem dX6_addServer_83 : decode cX6_addServer 83 = .ok (.getfield 10, 3) := by decide +kernel
theorem dX6_addServer_86 : decode cX6_addServer 86 = .ok (.invokevirtual 119, 3) := by decide +kernel
theorem dX6_addServer_89 : decode cX6_addServer 89 = .ok (.iload_n 3, 1) := by decide +kernel
theorem dX6_addServer_90 : decode cX6_addServer 90 = .ok (.ireturn, 1) := by decide +kernel
theorem dX6_removeServer_0 : decode cX6_removeServer 0 = .ok (.aload_n 0, 1) := by decide +kernel
theorem dX6_removeServer_1 : decode cX6_removeServer 1 = .ok (.iload_n 1, 1) := by decide +kernel
theorem dX6_removeServer_2 : decode cX6_removeServer 2 = .ok (.invokevirtual 123, 3) := by decide +kernel
theorem dX6_removeServer_5 : decode cX6_removeServer 5 = .ok (.aload_n 0, 1) := by decide +kernel
theorem dX6_removeServer_6 : decode cX6_removeServer 6 = .ok (.getfield 10, 3) := by decide +kernel
theorem dX6_removeServer_9 : decode cX6_removeServer 9 = .ok (.iload_n 1, 1) := by decide +kernel
theorem dX6_removeServer_10 : decode cX6_removeServer 10 = .ok (.invokevirtual 126, 3) := by decide +kernel
theorem dX6_removeServer_13 : decode cX6_removeServer 13 = .ok (.lstore_n 2, 1) := by decide +kernel
theorem dX6_removeServer_14 : decode cX6_removeServer 14 = .ok (.aload_n 0, 1) := by decide +kernel
theorem dX6_removeServer_15 : decode cX6_removeServer 15 = .ok (.getfield 42, 3) := by decide +kernel
theorem dX6_removeServer_18 : decode cX6_removeServer 18 = .ok (.aload_n 0, 1) := by decide +kernel
theorem dX6_removeServer_19 : decode cX6_removeServer 19 = .ok (.getfield 10, 3) := by decide +kernel
theorem dX6_removeServer_22 : decode cX6_removeServer 22 = .ok (.aload_n 0, 1) := by decide +kernel
theorem dX6_removeServer_23 : decode cX6_removeServer 23 = .ok (.getfield 19, 3) := by decide +kernel
theorem dX6_removeServer_26 : decode cX6_removeServer 26 = .ok (.invokevirtual 111, 3) := by decide +kernel
theorem dX6_removeServer_29 : decode cX6_removeServer 29 = .ok (.aload_n 0, 1) := by decide +kernel
theorem dX6_removeServer_30 : decode cX6_removeServer 30 = .ok (.getfield 10, 3) := by decide +kernel
theorem dX6_removeServer_33 : decode cX6_removeServer 33 = .ok (.iload_n 1, 1) := by decide +kernel
theorem dX6_removeServer_34 : decode cX6_removeServer 34 = .ok (.invokevirtual 130, 3) := by decide +kernel
theorem dX6_removeServer_37 : decode cX6_removeServer 37 = .ok (.aload_n 0, 1) := by decide +kernel
theorem dX6_removeServer_38 : decode cX6_removeServer 38 = .ok (.getfield 19, 3) := by decide +kernel
theorem dX6_removeServer_41 : decode cX6_removeServer 41 = .ok (.iload_n 1, 1) := by decide +kernel
theorem dX6_removeServer_42 : decode cX6_removeServer 42 = .ok (.invokevirtual 133, 3) := by decide +kernel
theorem dX6_removeServer_45 : decode cX6_removeServer 45 = .ok (.aload_n 0, 1) := by decide +kernel
theorem dX6_removeServer_46 : decode cX6_removeServer 46 = .ok (.getfield 28, 3) := by decide +kernel
theorem dX6_removeServer_49 : decode cX6_removeServer 49 = .ok (.aload_n 0, 1) := by decide +kernel
theorem dX6_removeServer_50 : decode cX6_removeServer 50 = .ok (.getfield 10, 3) := by decide +kernel
theorem dX6_removeServer_53 : decode cX6_removeServer 53 = .ok (.invokevirtual 119, 3) := by decide +kernel
theorem dX6_removeServer_56 : decode cX6_removeServer 56 = .ok (.lload_n 2, 1) := by decide +kernel
theorem dX6_removeServer_57 : decode cX6_removeServer 57 = .ok (.lreturn, 1) := by decide +kernel
theorem dX6_setWeight_0 : decode cX6_setWeight 0 = .ok (.aload_n 0, 1) := by decide +kernel
theorem dX6_setWeight_1 : decode cX6_setWeight 1 = .ok (.iload_n 1, 1) := by decide +kernel
theorem dX6_setWeight_2 : decode cX6_setWeight 2 = .ok (.invokevirtual 123, 3) := by decide +kernel
theorem dX6_setWeight_5 : decode cX6_setWeight 5 = .ok (.iload_n 2, 1) := by decide +kernel
theorem dX6_setWeight_6 : decode cX6_setWeight 6 = .ok (.invokestatic 95, 3) := by decide +kernel
theorem dX6_setWeight_9 : decode cX6_setWeight 9 = .ok (.aload_n 0, 1) := by decide +kernel
theorem dX6_setWeight_10 : decode cX6_setWeight 10 = .ok (.getfield 10, 3) := by decide +kernel
theorem dX6_setWeight_13 : decode cX6_setWeight 13 = .ok (.iload_n 1, 1) := by decide +kernel
theorem dX6_setWeight_14 : decode cX6_setWeight 14 = .ok (.invokevirtual 136, 3) := by decide +kernel
theorem dX6_setWeight_17 : decode cX6_setWeight 17 = .ok (.istore_n 3, 1) := by decide +kernel
theorem dX6_setWeight_18 : decode cX6_setWeight 18 = .ok (.aload_n 0, 1) := by decide +kernel
theorem dX6_setWeight_19 : decode cX6_setWeight 19 = .ok (.getfield 42, 3) := by decide +kernel
theorem dX6_setWeight_22 : decode cX6_setWeight 22 = .ok (.aload_n 0, 1) := by decide +kernel
theorem dX6_setWeight_23 : decode cX6_setWeight 23 = .ok (.getfield 10, 3) := by decide +kernel
theorem dX6_setWeight_26 : decode cX6_setWeight 26 = .ok (.aload_n 0, 1) := by decide +kernel
theorem dX6_setWeight_27 : decode cX6_setWeight 27 = .ok (.getfield 19, 3) := by decide +kernel
theorem dX6_setWeight_30 : decode cX6_setWeight 30 = .ok (.invokevirtual 111, 3) := by decide +kernel
theorem dX6_setWeight_33 : decode cX6_setWeight 33 = .ok (.aload_n 0, 1) := by decide +kernel
theorem dX6_setWeight_34 : decode cX6_setWeight 34 = .ok (.getfield 10, 3) := by decide +kernel
theorem dX6_setWeight_37 : decode cX6_setWeight 37 = .ok (.iload_n 1, 1) := by decide +kernel
theorem dX6_setWeight_38 : decode cX6_setWeight 38 = .ok (.iload_n 2, 1) := by decide +kernel
theorem dX6_setWeight_39 : decode cX6_setWeight 39 = .ok (.invokevirtual 139, 3) := by decide +kernel
theorem dX6_setWeight_42 : decode cX6_setWeight 42 = .ok (.aload_n 0, 1) := by decide +kernel
theorem dX6_setWeight_43 : decode cX6_setWeight 43 = .ok (.getfield 28, 3) := by decide +kernel
theorem dX6_setWeight_46 : decode cX6_setWeight 46 = .ok (.aload_n 0, 1) := by decide +kernel
theorem dX6_setWeight_47 : decode cX6_setWeight 47 = .ok (.getfield 10, 3) := by decide +kernel
theorem dX6_setWeight_50 : decode cX6_setWeight 50 = .ok (.invokevirtual 119, 3) := by decide +kernel
theorem dX6_setWeight_53 : decode cX6_setWeight 53 = .ok (.iload_n 3, 1) := by decide +kernel
theorem dX6_setWeight_54 : decode cX6_setWeight 54 = .ok (.ireturn, 1) := by decide +kernel
theorem dX6_setUp_0 : decode cX6_setUp 0 = .ok (.aload_n 0, 1) := by decide +kernel
theorem dX6_setUp_1 : decode cX6_setUp 1 = .ok (.iload_n 1, 1) := by decide +kernel
theorem dX6_setUp_2 : decode cX6_setUp 2 = .ok (.invokevirtual 123, 3) := by decide +kernel
theorem dX6_setUp_5 : decode cX6_setUp 5 = .ok (.aload_n 0, 1) := by decide +kernel
theorem dX6_setUp_6 : decode cX6_setUp 6 = .ok (.getfield 10, 3) := by decide +kernel
theorem dX6_setUp_9 : decode cX6_setUp 9 = .ok (.iload_n 1, 1) := by decide +kernel
theorem dX6_setUp_10 : decode cX6_setUp 10 = .ok (.invokevirtual 143, 3) := by decide +kernel
theorem dX6_setUp_13 : decode cX6_setUp 13 = .ok (.istore_n 3, 1) := by decide +kernel
theorem dX6_setUp_14 : decode cX6_setUp 14 = .ok (.aload_n 0, 1) := by decide +kernel
theorem dX6_setUp_15 : decode cX6_setUp 15 = .ok (.getfield 42, 3) := by decide +kernel
theorem dX6_setUp_18 : decode cX6_setUp 18 = .ok (.aload_n 0, 1) := by decide +kernel
theorem dX6_setUp_19 : decode cX6_setUp 19 = .ok (.getfield 10, 3) := by decide +kernel
theorem dX6_setUp_22 : decode cX6_setUp 22 = .ok (.aload_n 0, 1) := by decide +kernel
theorem dX6_setUp_23 : decode cX6_setUp 23 = .ok (.getfield 19, 3) := by decide +kernel
theorem dX6_setUp_26 : decode cX6_setUp 26 = .ok (.invokevirtual 111, 3) := by decide +kernel
theorem dX6_setUp_29 : decode cX6_setUp 29 = .ok (.aload_n 0, 1) := by decide +kernel
theorem dX6_setUp_30 : decode cX6_setUp 30 = .ok (.getfield 10, 3) := by decide +kernel
theorem dX6_setUp_33 : decode cX6_setUp 33 = .ok (.iload_n 1, 1) := by decide +kernel
theorem dX6_setUp_34 : decode cX6_setUp 34 = .ok (.iload_n 2, 1) := by decide +kernel
theorem dX6_setUp_35 : decode cX6_setUp 35 = .ok (.invokevirtual 146, 3) := by decide +kernel
theorem dX6_setUp_38 : decode cX6_setUp 38 = .ok (.aload_n 0, 1) := by decide +kernel
theorem dX6_setUp_39 : decode cX6_setUp 39 = .ok (.getfield 28, 3) := by decide +kernel
theorem dX6_setUp_42 : decode cX6_setUp 42 = .ok (.aload_n 0, 1) := by decide +kernel
theorem dX6_setUp_43 : decode cX6_setUp 43 = .ok (.getfield 10, 3) := by decide +kernel
theorem dX6_setUp_46 : decode cX6_setUp 46 = .ok (.invokevirtual 119, 3) := by decide +kernel
theorem dX6_setUp_49 : decode cX6_setUp 49 = .ok (.iload_n 3, 1) := by decide +kernel
theorem dX6_setUp_50 : decode cX6_setUp 50 = .ok (.ireturn, 1) := by decide +kernel
theorem dX6_idealShare_0 : decode cX6_idealShare 0 = .ok (.aload_n 0, 1) := by decide +kernel
theorem dX6_idealShare_1 : decode cX6_idealShare 1 = .ok (.iload_n 1, 1) := by decide +kernel
theorem dX6_idealShare_2 : decode cX6_idealShare 2 = .ok (.invokevirtual 123, 3) := by decide +kernel
theorem dX6_idealShare_5 : decode cX6_idealShare 5 = .ok (.aload_n 0, 1) := by decide +kernel
theorem dX6_idealShare_6 : decode cX6_idealShare 6 = .ok (.iload_n 1, 1) := by decide +kernel
theorem dX6_idealShare_7 : decode cX6_idealShare 7 = .ok (.invokevirtual 85, 3) := by decide +kernel
theorem dX6_idealShare_10 : decode cX6_idealShare 10 = .ok (.dreturn, 1) := by decide +kernel
theorem dX6_undo_0 : decode cX6_undo 0 = .ok (.aload_n 0, 1) := by decide +kernel
theorem dX6_undo_1 : decode cX6_undo 1 = .ok (.getfield 42, 3) := by decide +kernel
theorem dX6_undo_4 : decode cX6_undo 4 = .ok (.invokevirtual 217, 3) := by decide +kernel
theorem dX6_undo_7 : decode cX6_undo 7 = .ok (.ifCond .ne 13, 3) := by decide +kernel
theorem dX6_undo_10 : decode cX6_undo 10 = .ok (.new 101, 3) := by decide +kernel
theorem dX6_undo_13 : decode cX6_undo 13 = .ok (.dup, 1) := by decide +kernel
theorem dX6_undo_14 : decode cX6_undo 14 = .ok (.ldc 218, 2) := by decide +kernel
theorem dX6_undo_16 : decode cX6_undo 16 = .ok (.invokespecial 105, 3) := by decide +kernel
theorem dX6_undo_19 : decode cX6_undo 19 = .ok (.athrow, 1) := by decide +kernel
theorem dX6_undo_20 : decode cX6_undo 20 = .ok (.aload_n 0, 1) := by decide +kernel
theorem dX6_undo_21 : decode cX6_undo 21 = .ok (.getfield 42, 3) := by decide +kernel
theorem dX6_undo_24 : decode cX6_undo 24 = .ok (.aload_n 0, 1) := by decide +kernel
theorem dX6_undo_25 : decode cX6_undo 25 = .ok (.getfield 10, 3) := by decide +kernel
theorem dX6_undo_28 : decode cX6_undo 28 = .ok (.aload_n 0, 1) := by decide +kernel
theorem dX6_undo_29 : decode cX6_undo 29 = .ok (.getfield 19, 3) := by decide +kernel
theorem dX6_undo_32 : decode cX6_undo 32 = .ok (.invokevirtual 220, 3) := by decide +kernel
theorem dX6_undo_35 : decode cX6_undo 35 = .ok (.aload_n 0, 1) := by decide +kernel
theorem dX6_undo_36 : decode cX6_undo 36 = .ok (.getfield 28, 3) := by decide +kernel
theorem dX6_undo_39 : decode cX6_undo 39 = .ok (.aload_n 0, 1) := by decide +kernel
theorem dX6_undo_40 : decode cX6_undo 40 = .ok (.getfield 10, 3) := by decide +kernel
theorem dX6_undo_43 : decode cX6_undo 43 = .ok (.invokevirtual 119, 3) := by decide +kernel
theorem dX6_undo_46 : decode cX6_undo 46 = .ok (.aload_n 0, 1) := by decide +kernel
theorem dX6_undo_47 : decode cX6_undo 47 = .ok (.getfield 42, 3) := by decide +kernel
theorem dX6_undo_50 : decode cX6_undo 50 = .ok (.invokevirtual 217, 3) := by decide +kernel
theorem dX6_undo_53 : decode cX6_undo 53 = .ok (.ireturn, 1) := by decide +kernel
theorem dX6_shareOf_0 : decode cX6_shareOf 0 = .ok (.aload_n 0, 1) := by decide +kernel
theorem dX6_shareOf_1 : decode cX6_shareOf 1 = .ok (.getfield 10, 3) := by decide +kernel
theorem dX6_shareOf_4 : decode cX6_shareOf 4 = .ok (.invokevirtual 244, 3) := by decide +kernel
theorem dX6_shareOf_7 : decode cX6_shareOf 7 = .ok (.istore_n 2, 1) := by decide +kernel
theorem dX6_shareOf_8 : decode cX6_shareOf 8 = .ok (.iload_n 2, 1) := by decide +kernel
theorem dX6_shareOf_9 : decode cX6_shareOf 9 = .ok (.ifCond .le 14, 3) := by decide +kernel
theorem dX6_shareOf_12 : decode cX6_shareOf 12 = .ok (.aload_n 0, 1) := by decide +kernel
theorem dX6_shareOf_13 : decode cX6_shareOf 13 = .ok (.getfield 10, 3) := by decide +kernel
theorem dX6_shareOf_16 : decode cX6_shareOf 16 = .ok (.iload_n 1, 1) := by decide +kernel
theorem dX6_shareOf_17 : decode cX6_shareOf 17 = .ok (.invokevirtual 143, 3) := by decide +kernel
theorem dX6_shareOf_20 : decode cX6_shareOf 20 = .ok (.ifCond .ne 5, 3) := by decide +kernel
theorem dX6_shareOf_23 : decode cX6_shareOf 23 = .ok (.dconst 0, 1) := by decide +kernel
theorem dX6_shareOf_24 : decode cX6_shareOf 24 = .ok (.dreturn, 1) := by decide +kernel
theorem dX6_shareOf_25 : decode cX6_shareOf 25 = .ok (.aload_n 0, 1) := by decide +kernel
theorem dX6_shareOf_26 : decode cX6_shareOf 26 = .ok (.getfield 28, 3) := by decide +kernel
theorem dX6_shareOf_29 : decode cX6_shareOf 29 = .ok (.invokevirtual 57, 3) := by decide +kernel
theorem dX6_shareOf_32 : decode cX6_shareOf 32 = .ok (.aload_n 0, 1) := by decide +kernel
theorem dX6_shareOf_33 : decode cX6_shareOf 33 = .ok (.getfield 10, 3) := by decide +kernel
theorem dX6_shareOf_36 : decode cX6_shareOf 36 = .ok (.iload_n 1, 1) := by decide +kernel
theorem dX6_shareOf_37 : decode cX6_shareOf 37 = .ok (.invokevirtual 136, 3) := by decide +kernel
theorem dX6_shareOf_40 : decode cX6_shareOf 40 = .ok (.imul, 1) := by decide +kernel
theorem dX6_shareOf_41 : decode cX6_shareOf 41 = .ok (.i2d, 1) := by decide +kernel
theorem dX6_shareOf_42 : decode cX6_shareOf 42 = .ok (.iload_n 2, 1) := by decide +kernel
theorem dX6_shareOf_43 : decode cX6_shareOf 43 = .ok (.i2d, 1) := by decide +kernel
theorem dX6_shareOf_44 : decode cX6_shareOf 44 = .ok (.ddiv, 1) := by decide +kernel
theorem dX6_shareOf_45 : decode cX6_shareOf 45 = .ok (.dreturn, 1) := by decide +kernel
theorem k_X6_reset_46 : aKS mX6_reset mX6_isSlotCount 46 1 := ⟨cb_X6_isSlotCount, rfl, ml_X6_46, st_X6_isSlotCount, ⟨Nat.le_of_ble_eq_true rfl, Nat.le_of_ble_eq_true rfl⟩⟩
theorem k_X6_reset_57 : aKV mX6_reset mX3_size 57 0 3 := ⟨cb_X3_size, rfl, ml_X6_57, iv_X3_size, sl_X3_size, ⟨_, _, rfl⟩, ⟨Nat.le_of_ble_eq_true rfl, Nat.le_of_ble_eq_true rfl⟩⟩
theorem k_X6_reset_61 : aKV mX6_reset mX0_clear 61 0 0 := ⟨cb_X0_clear, rfl, ml_X6_61, iv_X0_clear, sl_X0_clear, ⟨_, _, rfl⟩, ⟨Nat.le_of_ble_eq_true rfl, Nat.le_of_ble_eq_true rfl⟩⟩
theorem k_X6_reset_64 : aKV mX6_reset mX2_clear 64 0 2 := ⟨cb_X2_clear, rfl, ml_X6_64, iv_X2_clear, sl_X2_clear, ⟨_, _, rfl⟩, ⟨Nat.le_of_ble_eq_true rfl, Nat.le_of_ble_eq_true rfl⟩⟩
theorem k_X6_reset_65 : aKV mX6_reset mX5_clear 65 0 5 := ⟨cb_X5_clear, rfl, ml_X6_65, iv_X5_clear, sl_X5_clear, ⟨_, _, rfl⟩, ⟨Nat.le_of_ble_eq_true rfl, Nat.le_of_ble_eq_true rfl⟩⟩
theorem k_X6_reset_66 : aKV mX6_reset mX1_clear 66 0 1 := ⟨cb_X1_clear, rfl, ml_X6_66, iv_X1_clear, sl_X1_clear, ⟨_, _, rfl⟩, ⟨Nat.le_of_ble_eq_true rfl, Nat.le_of_ble_eq_true rfl⟩⟩
theorem k_X6_reset_67 : aKV mX6_reset mX3_startAnew 67 1 3 := ⟨cb_X3_startAnew, rfl, ml_X6_67, iv_X3_startAnew, sl_X3_startAnew, ⟨_, _, rfl⟩, ⟨Nat.le_of_ble_eq_true rfl, Nat.le_of_ble_eq_true rfl⟩⟩
theorem k_X6_addServer_92 : aKS mX6_addServer mX6_checkName 92 1 := ⟨cb_X6_checkName, rfl, ml_X6_92, st_X6_checkName, ⟨Nat.le_of_ble_eq_true rfl, Nat.le_of_ble_eq_true rfl⟩⟩
theorem k_X6_addServer_95 : aKS mX6_addServer mX6_checkWeight 95 1 := ⟨cb_X6_checkWeight, rfl, ml_X6_95, st_X6_checkWeight, ⟨Nat.le_of_ble_eq_true rfl, Nat.le_of_ble_eq_true rfl⟩⟩
theorem k_X6_addServer_98 : aKV mX6_addServer mX0_find 98 1 0 := ⟨cb_X0_find, rfl, ml_X6_98, iv_X0_find, sl_X0_find, ⟨_, _, rfl⟩, ⟨Nat.le_of_ble_eq_true rfl, Nat.le_of_ble_eq_true rfl⟩⟩
theorem k_X6_addServer_106 : aKV mX6_addServer mX0_lowestFree 106 0 0 := ⟨cb_X0_lowestFree, rfl, ml_X6_106, iv_X0_lowestFree, sl_X0_lowestFree, ⟨_, _, rfl⟩, ⟨Nat.le_of_ble_eq_true rfl, Nat.le_of_ble_eq_true rfl⟩⟩
theorem k_X6_addServer_111 : aKV mX6_addServer mX1_remember 111 2 1 := ⟨cb_X1_remember, rfl, ml_X6_111, iv_X1_remember, sl_X1_remember, ⟨_, _, rfl⟩, ⟨Nat.le_of_ble_eq_true rfl, Nat.le_of_ble_eq_true rfl⟩⟩
theorem k_X6_addServer_115 : aKV mX6_addServer mX0_put 115 3 0 := ⟨cb_X0_put, rfl, ml_X6_115, iv_X0_put, sl_X0_put, ⟨_, _, rfl⟩, ⟨Nat.le_of_ble_eq_true rfl, Nat.le_of_ble_eq_true rfl⟩⟩
theorem k_X6_addServer_119 : aKV mX6_addServer mX3_rebuild 119 1 3 := ⟨cb_X3_rebuild, rfl, ml_X6_119, iv_X3_rebuild, sl_X3_rebuild, ⟨_, _, rfl⟩, ⟨Nat.le_of_ble_eq_true rfl, Nat.le_of_ble_eq_true rfl⟩⟩
theorem k_X6_removeServer_123 : aKV mX6_removeServer mX6_checkServer 123 1 6 := ⟨cb_X6_checkServer, rfl, ml_X6_123, iv_X6_checkServer, sl_X6_checkServer, ⟨_, _, rfl⟩, ⟨Nat.le_of_ble_eq_true rfl, Nat.le_of_ble_eq_true rfl⟩⟩
theorem k_X6_removeServer_126 : aKV mX6_removeServer mX0_load 126 1 0 := ⟨cb_X0_load, rfl, ml_X6_126, iv_X0_load, sl_X0_load, ⟨_, _, rfl⟩, ⟨Nat.le_of_ble_eq_true rfl, Nat.le_of_ble_eq_true rfl⟩⟩
theorem k_X6_removeServer_111 : aKV mX6_removeServer mX1_remember 111 2 1 := ⟨cb_X1_remember, rfl, ml_X6_111, iv_X1_remember, sl_X1_remember, ⟨_, _, rfl⟩, ⟨Nat.le_of_ble_eq_true rfl, Nat.le_of_ble_eq_true rfl⟩⟩
theorem k_X6_removeServer_130 : aKV mX6_removeServer mX0_drop 130 1 0 := ⟨cb_X0_drop, rfl, ml_X6_130, iv_X0_drop, sl_X0_drop, ⟨_, _, rfl⟩, ⟨Nat.le_of_ble_eq_true rfl, Nat.le_of_ble_eq_true rfl⟩⟩
theorem k_X6_removeServer_133 : aKV mX6_removeServer mX2_dropServer 133 1 2 := ⟨cb_X2_dropServer, rfl, ml_X6_133, iv_X2_dropServer, sl_X2_dropServer, ⟨_, _, rfl⟩, ⟨Nat.le_of_ble_eq_true rfl, Nat.le_of_ble_eq_true rfl⟩⟩
theorem k_X6_removeServer_119 : aKV mX6_removeServer mX3_rebuild 119 1 3 := ⟨cb_X3_rebuild, rfl, ml_X6_119, iv_X3_rebuild, sl_X3_rebuild, ⟨_, _, rfl⟩, ⟨Nat.le_of_ble_eq_true rfl, Nat.le_of_ble_eq_true rfl⟩⟩
theorem k_X6_setWeight_123 : aKV mX6_setWeight mX6_checkServer 123 1 6 := ⟨cb_X6_checkServer, rfl, ml_X6_123, iv_X6_checkServer, sl_X6_checkServer, ⟨_, _, rfl⟩, ⟨Nat.le_of_ble_eq_true rfl, Nat.le_of_ble_eq_true rfl⟩⟩
theorem k_X6_setWeight_95 : aKS mX6_setWeight mX6_checkWeight 95 1 := ⟨cb_X6_checkWeight, rfl, ml_X6_95, st_X6_checkWeight, ⟨Nat.le_of_ble_eq_true rfl, Nat.le_of_ble_eq_true rfl⟩⟩
theorem k_X6_setWeight_136 : aKV mX6_setWeight mX0_weight 136 1 0 := ⟨cb_X0_weight, rfl, ml_X6_136, iv_X0_weight, sl_X0_weight, ⟨_, _, rfl⟩, ⟨Nat.le_of_ble_eq_true rfl, Nat.le_of_ble_eq_true rfl⟩⟩
theorem k_X6_setWeight_111 : aKV mX6_setWeight mX1_remember 111 2 1 := ⟨cb_X1_remember, rfl, ml_X6_111, iv_X1_remember, sl_X1_remember, ⟨_, _, rfl⟩, ⟨Nat.le_of_ble_eq_true rfl, Nat.le_of_ble_eq_true rfl⟩⟩
theorem k_X6_setWeight_139 : aKV mX6_setWeight mX0_changeWeight 139 2 0 := ⟨cb_X0_changeWeight, rfl, ml_X6_139, iv_X0_changeWeight, sl_X0_changeWeight, ⟨_, _, rfl⟩, ⟨Nat.le_of_ble_eq_true rfl, Nat.le_of_ble_eq_true rfl⟩⟩
theorem k_X6_setWeight_119 : aKV mX6_setWeight mX3_rebuild 119 1 3 := ⟨cb_X3_rebuild, rfl, ml_X6_119, iv_X3_rebuild, sl_X3_rebuild, ⟨_, _, rfl⟩, ⟨Nat.le_of_ble_eq_true rfl, Nat.le_of_ble_eq_true rfl⟩⟩
theorem k_X6_setUp_123 : aKV mX6_setUp mX6_checkServer 123 1 6 := ⟨cb_X6_checkServer, rfl, ml_X6_123, iv_X6_checkServer, sl_X6_checkServer, ⟨_, _, rfl⟩, ⟨Nat.le_of_ble_eq_true rfl, Nat.le_of_ble_eq_true rfl⟩⟩
theorem k_X6_setUp_143 : aKV mX6_setUp mX0_isUp 143 1 0 := ⟨cb_X0_isUp, rfl, ml_X6_143, iv_X0_isUp, sl_X0_isUp, ⟨_, _, rfl⟩, ⟨Nat.le_of_ble_eq_true rfl, Nat.le_of_ble_eq_true rfl⟩⟩
theorem k_X6_setUp_111 : aKV mX6_setUp mX1_remember 111 2 1 := ⟨cb_X1_remember, rfl, ml_X6_111, iv_X1_remember, sl_X1_remember, ⟨_, _, rfl⟩, ⟨Nat.le_of_ble_eq_true rfl, Nat.le_of_ble_eq_true rfl⟩⟩
theorem k_X6_setUp_146 : aKV mX6_setUp mX0_changeUp 146 2 0 := ⟨cb_X0_changeUp, rfl, ml_X6_146, iv_X0_changeUp, sl_X0_changeUp, ⟨_, _, rfl⟩, ⟨Nat.le_of_ble_eq_true rfl, Nat.le_of_ble_eq_true rfl⟩⟩
theorem k_X6_setUp_119 : aKV mX6_setUp mX3_rebuild 119 1 3 := ⟨cb_X3_rebuild, rfl, ml_X6_119, iv_X3_rebuild, sl_X3_rebuild, ⟨_, _, rfl⟩, ⟨Nat.le_of_ble_eq_true rfl, Nat.le_of_ble_eq_true rfl⟩⟩
theorem k_X6_undo_217 : aKV mX6_undo mX1_size 217 0 1 := ⟨cb_X1_size, rfl, ml_X6_217, iv_X1_size, sl_X1_size, ⟨_, _, rfl⟩, ⟨Nat.le_of_ble_eq_true rfl, Nat.le_of_ble_eq_true rfl⟩⟩
theorem k_X6_undo_220 : aKV mX6_undo mX1_bringBack 220 2 1 := ⟨cb_X1_bringBack, rfl, ml_X6_220, iv_X1_bringBack, sl_X1_bringBack, ⟨_, _, rfl⟩, ⟨Nat.le_of_ble_eq_true rfl, Nat.le_of_ble_eq_true rfl⟩⟩
theorem k_X6_undo_119 : aKV mX6_undo mX3_rebuild 119 1 3 := ⟨cb_X3_rebuild, rfl, ml_X6_119, iv_X3_rebuild, sl_X3_rebuild, ⟨_, _, rfl⟩, ⟨Nat.le_of_ble_eq_true rfl, Nat.le_of_ble_eq_true rfl⟩⟩
theorem k_X6_shareOf_244 : aKV mX6_shareOf mX0_weightSum 244 0 0 := ⟨cb_X0_weightSum, rfl, ml_X6_244, iv_X0_weightSum, sl_X0_weightSum, ⟨_, _, rfl⟩, ⟨Nat.le_of_ble_eq_true rfl, Nat.le_of_ble_eq_true rfl⟩⟩
theorem k_X6_shareOf_143 : aKV mX6_shareOf mX0_isUp 143 1 0 := ⟨cb_X0_isUp, rfl, ml_X6_143, iv_X0_isUp, sl_X0_isUp, ⟨_, _, rfl⟩, ⟨Nat.le_of_ble_eq_true rfl, Nat.le_of_ble_eq_true rfl⟩⟩
theorem k_X6_shareOf_57 : aKV mX6_shareOf mX3_size 57 0 3 := ⟨cb_X3_size, rfl, ml_X6_57, iv_X3_size, sl_X3_size, ⟨_, _, rfl⟩, ⟨Nat.le_of_ble_eq_true rfl, Nat.le_of_ble_eq_true rfl⟩⟩
theorem k_X6_shareOf_136 : aKV mX6_shareOf mX0_weight 136 1 0 := ⟨cb_X0_weight, rfl, ml_X6_136, iv_X0_weight, sl_X0_weight, ⟨_, _, rfl⟩, ⟨Nat.le_of_ble_eq_true rfl, Nat.le_of_ble_eq_true rfl⟩⟩
theorem k_X6_idealShare_123 : aKV mX6_idealShare mX6_checkServer 123 1 6 := ⟨cb_X6_checkServer, rfl, ml_X6_123, iv_X6_checkServer, sl_X6_checkServer, ⟨_, _, rfl⟩, ⟨Nat.le_of_ble_eq_true rfl, Nat.le_of_ble_eq_true rfl⟩⟩
theorem k_X6_idealShare_85 : aKV mX6_idealShare mX6_shareOf 85 1 6 := ⟨cb_X6_shareOf, rfl, ml_X6_85, iv_X6_shareOf, sl_X6_shareOf, ⟨_, _, rfl⟩, ⟨Nat.le_of_ble_eq_true rfl, Nat.le_of_ble_eq_true rfl⟩⟩
theorem k_X6_imbalance_85 : aKV mX6_imbalance mX6_shareOf 85 1 6 := ⟨cb_X6_shareOf, rfl, ml_X6_85, iv_X6_shareOf, sl_X6_shareOf, ⟨_, _, rfl⟩, ⟨Nat.le_of_ble_eq_true rfl, Nat.le_of_ble_eq_true rfl⟩⟩
theorem k_X6_imbalance_89 : aKV mX6_imbalance mX3_ownedBy 89 1 3 := ⟨cb_X3_ownedBy, rfl, ml_X6_89, iv_X3_ownedBy, sl_X3_ownedBy, ⟨_, _, rfl⟩, ⟨Nat.le_of_ble_eq_true rfl, Nat.le_of_ble_eq_true rfl⟩⟩
/-! ===== PreferenceTable: changes ===== -/
def fCN (t : fT) : fT := (fFl 10 (fun _ => 0) t.1, t.2)
def bAn (n : Nat) (b : bT) : bT := (n, fFl 61 (fun _ => -1) b.2.1, b.2.2.1, b.2.2.2.1, 0, 0)
theorem sCN_ok {s t : fT} (hs : fOk s) : fOk (sCN s t) := by
  refine ⟨fun j hj => ?_, fun j hj => ?_, hs.2.2⟩
  · show fFl 10 s.1 t.1 j ≤ 9999
    unfold fFl; rw [if_pos hj]; exact hs.1 j hj
  · show fFl 10 s.2.1 t.2.1 j ≤ 16
    unfold fFl; rw [if_pos hj]; exact hs.2.1 j hj
section PT5
variable {l : Launch} {X : aX} {t : fT} {b : bT} {k : kT} {y : hT}
theorem c_X6_reset_bad (hl : l.stackTraces = false) (hX : aXok X) (s : Int32) (hg : gSc s = false) : aMt l X mX6_reset [0] [.ref 0, .int s] (aPT t b k y) (fun o h' => o = .inr IAE ∧ h' = aPT t b k y) := by
  refine aMt.of (by decide) rfl (Nat.le_of_ble_eq_true rfl) ?_
  have hsc := c_X6_isSlotCount (l := l) hX s
  rw [hg] at hsc
  refine a_iload_n dX6_reset_0 rfl ?_
  refine a_SiR [] k_X6_reset_46 (hsc) dX6_reset_1 rfl rfl rfl rfl rfl (Nat.le_of_ble_eq_true rfl) ⟨Nat.le_of_ble_eq_true rfl, Nat.le_of_ble_eq_true rfl⟩ ⟨rfl, rfl⟩ ?_
  refine a_if_ne 17 dX6_reset_4 (by decide) (fun z => absurd rfl z) (fun _ => ?_)
  refine a_throw hl tw_54 tx_X6_52 rfl dX6_reset_7 dX6_reset_10 dX6_reset_11 dX6_reset_13 dX6_reset_16 ⟨Nat.le_of_ble_eq_true rfl, Nat.le_of_ble_eq_true rfl⟩ (Nat.le_of_ble_eq_true rfl) (Nat.le_of_ble_eq_true rfl) ?_
  exact ⟨rfl, rfl⟩
theorem c_X6_reset_ok (hX : aXok X) (n : Nat) (hn : n ≤ 61) (hg : gSc (nI n) = true) : aMt l X mX6_reset [0] [.ref 0, .int (nI n)] (aPT t b k y) (fun o h' => o = .inl (some (.int (nI b.1))) ∧ h' = aPT (fClr t) (bAn n b) (k.1, 0) (0, y.2)) := by
  refine aMt.of (by decide) rfl (Nat.le_of_ble_eq_true rfl) ?_
  have hsc := c_X6_isSlotCount (l := l) hX (nI n)
  rw [hg] at hsc
  refine a_iload_n dX6_reset_0 rfl ?_
  refine a_SiR [] k_X6_reset_46 (hsc) dX6_reset_1 rfl rfl rfl rfl rfl (Nat.le_of_ble_eq_true rfl) ⟨Nat.le_of_ble_eq_true rfl, Nat.le_of_ble_eq_true rfl⟩ ⟨rfl, rfl⟩ ?_
  refine a_if_ne 17 dX6_reset_4 (by decide) (fun _ => ?_) (fun z => absurd z (by decide))
  refine a_aload_n dX6_reset_17 rfl ?_
  refine a_get fl_X6_28 dX6_reset_18 rfl rfl ?_
  refine a_ViR [9, 10, 11, 12] k_X6_reset_57 (c_X3_size (M := b.1) (ow := b.2.1) (dr := b.2.2.1) (tr := b.2.2.2.1) (ch := b.2.2.2.2.1) (fo := b.2.2.2.2.2)) dX6_reset_21 rfl rfl rfl rfl rfl rfl (Nat.le_of_ble_eq_true rfl) ⟨Nat.le_of_ble_eq_true rfl, Nat.le_of_ble_eq_true rfl⟩ ⟨rfl, rfl⟩ ?_
  refine a_istore_n dX6_reset_24 (by decide) rfl ?_
  refine a_aload_n dX6_reset_25 rfl ?_
  refine a_get fl_X6_10 dX6_reset_26 rfl rfl ?_
  refine a_VvW [1, 2, 3, 4, 5] (aPT (fCN t) b k y) k_X6_reset_61 (n_clear (t := t)) dX6_reset_29 rfl rfl rfl rfl rfl rfl (Nat.le_of_ble_eq_true rfl) ⟨Nat.le_of_ble_eq_true rfl, Nat.le_of_ble_eq_true rfl⟩ ⟨rfl, rfl⟩ (Nat.le_of_ble_eq_true rfl) rfl ?_
  refine a_aload_n dX6_reset_32 rfl ?_
  refine a_get fl_X6_19 dX6_reset_33 rfl rfl ?_
  refine a_VvW [6, 7, 8] (aPT (fClr t) b k y) k_X6_reset_64 (c_X2_clear (pk := t.2.2.2.2.1) (ps := t.2.2.2.2.2.1) (m := t.2.2.2.2.2.2)) dX6_reset_36 rfl rfl rfl rfl rfl rfl (Nat.le_of_ble_eq_true rfl) ⟨Nat.le_of_ble_eq_true rfl, Nat.le_of_ble_eq_true rfl⟩ ⟨rfl, rfl⟩ (Nat.le_of_ble_eq_true rfl) rfl ?_
  refine a_aload_n dX6_reset_39 rfl ?_
  refine a_get fl_X6_35 dX6_reset_40 rfl rfl ?_
  refine a_VvW [13, 14, 15, 16] (aPT (fClr t) b (k.1, 0) y) k_X6_reset_65 (c_X5_clear (tk := k.1.1) (tc := k.1.2.1) (te := k.1.2.2) (m := k.2)) dX6_reset_43 rfl rfl rfl rfl rfl rfl (Nat.le_of_ble_eq_true rfl) ⟨Nat.le_of_ble_eq_true rfl, Nat.le_of_ble_eq_true rfl⟩ ⟨rfl, rfl⟩ (Nat.le_of_ble_eq_true rfl) rfl ?_
  refine a_aload_n dX6_reset_46 rfl ?_
  refine a_get fl_X6_42 dX6_reset_47 rfl rfl ?_
  refine a_VvW [17, 18, 19, 20, 21, 22, 23, 24, 25, 26, 27, 28, 29, 30, 31, 32, 33, 34, 35, 36, 37, 38, 39, 40, 41, 42, 43, 44, 45, 46, 47, 48, 49, 50, 51, 52, 53, 54] (aPT (fClr t) b (k.1, 0) (0, y.2)) k_X6_reset_66 (c_X1_clear (z := y.1) (s0 := cS y.2.1) (s1 := cS y.2.2.1) (s2 := cS y.2.2.2.1) (s3 := cS y.2.2.2.2)) dX6_reset_50 rfl rfl rfl rfl rfl rfl (Nat.le_of_ble_eq_true rfl) ⟨Nat.le_of_ble_eq_true rfl, Nat.le_of_ble_eq_true rfl⟩ ⟨rfl, rfl⟩ (Nat.le_of_ble_eq_true rfl) rfl ?_
  refine a_aload_n dX6_reset_53 rfl ?_
  refine a_get fl_X6_28 dX6_reset_54 rfl rfl ?_
  refine a_iload_n dX6_reset_57 rfl ?_
  refine a_VvW [9, 10, 11, 12] (aPT (fClr t) (bAn n b) (k.1, 0) (0, y.2)) k_X6_reset_67 (c_X3_startAnew (M := b.1) (ow := b.2.1) (dr := b.2.2.1) (tr := b.2.2.2.1) (ch := b.2.2.2.2.1) (fo := b.2.2.2.2.2) n hn) dX6_reset_58 rfl rfl rfl rfl rfl rfl (Nat.le_of_ble_eq_true rfl) ⟨Nat.le_of_ble_eq_true rfl, Nat.le_of_ble_eq_true rfl⟩ ⟨rfl, rfl⟩ (Nat.le_of_ble_eq_true rfl) rfl ?_
  refine a_iload_n dX6_reset_61 rfl ?_
  refine a_iret rfl dX6_reset_62 (by decide) (by decide) ?_
  exact ⟨rfl, rfl⟩
theorem c_X6_addServer_iae (hl : l.stackTraces = false) (n w : Int32) (hg : (gNm n && gWt w) = false) : aMt l X mX6_addServer [0] [.ref 0, .int n, .int w] (aPT t b k y) (fun o h' => o = .inr IAE ∧ h' = aPT t b k y) := by
  refine aMt.of (by decide) rfl (Nat.le_of_ble_eq_true rfl) ?_
  have hcn := c_X6_checkName (X := X) hl n
  by_cases h1 : gNm n = true
  · rw [if_pos h1] at hcn
    have h2 : ¬ gWt w = true := by intro z; rw [h1, z] at hg; cases hg
    have hcw := c_X6_checkWeight (X := X) hl w
    rw [if_neg h2] at hcw
    refine a_iload_n dX6_addServer_0 rfl ?_
    refine a_Sr [] k_X6_addServer_92 (hcn) dX6_addServer_1 rfl rfl rfl rfl rfl (Nat.le_of_ble_eq_true rfl) ⟨Nat.le_of_ble_eq_true rfl, Nat.le_of_ble_eq_true rfl⟩ ?_
    refine a_iload_n dX6_addServer_4 rfl ?_
    refine a_Sx [] k_X6_addServer_95 (hcw) dX6_addServer_5 rfl rfl rfl rfl rfl (Nat.le_of_ble_eq_true rfl) ⟨Nat.le_of_ble_eq_true rfl, Nat.le_of_ble_eq_true rfl⟩ rfl ?_
    exact ⟨rfl, rfl⟩
  · rw [if_neg h1] at hcn
    refine a_iload_n dX6_addServer_0 rfl ?_
    refine a_Sx [] k_X6_addServer_92 (hcn) dX6_addServer_1 rfl rfl rfl rfl rfl (Nat.le_of_ble_eq_true rfl) ⟨Nat.le_of_ble_eq_true rfl, Nat.le_of_ble_eq_true rfl⟩ rfl ?_
    exact ⟨rfl, rfl⟩
theorem c_X6_addServer_ise (hl : l.stackTraces = false) (n w : Int32) (hg : (gNm n && gWt w) = true) (hh : ¬ fFn (cS t).1 n = -1 ∨ fFn (cS t).1 0 = -1) : aMt l X mX6_addServer [0] [.ref 0, .int n, .int w] (aPT t b k y) (fun o h' => o = .inr ISE ∧ h' = aPT t b k y) := by
  refine aMt.of (by decide) rfl (Nat.le_of_ble_eq_true rfl) ?_
  rw [Bool.and_eq_true] at hg
  have hcn := c_X6_checkName (X := X) hl n
  have hcw := c_X6_checkWeight (X := X) hl w
  rw [if_pos hg.1] at hcn
  rw [if_pos hg.2] at hcw
  refine a_iload_n dX6_addServer_0 rfl ?_
  refine a_Sr [] k_X6_addServer_92 (hcn) dX6_addServer_1 rfl rfl rfl rfl rfl (Nat.le_of_ble_eq_true rfl) ⟨Nat.le_of_ble_eq_true rfl, Nat.le_of_ble_eq_true rfl⟩ ?_
  refine a_iload_n dX6_addServer_4 rfl ?_
  refine a_Sr [] k_X6_addServer_95 (hcw) dX6_addServer_5 rfl rfl rfl rfl rfl (Nat.le_of_ble_eq_true rfl) ⟨Nat.le_of_ble_eq_true rfl, Nat.le_of_ble_eq_true rfl⟩ ?_
  refine a_aload_n dX6_addServer_8 rfl ?_
  refine a_get fl_X6_10 dX6_addServer_9 rfl rfl ?_
  refine a_iload_n dX6_addServer_12 rfl ?_
  refine a_ViR [1, 2, 3, 4, 5] k_X6_addServer_98 (c_X0_find (nm := (cS t).1) (wt := (cS t).2.1) (up := (cS t).2.2.1) (ld := (cS t).2.2.2.1) n) dX6_addServer_13 rfl rfl rfl rfl rfl rfl (Nat.le_of_ble_eq_true rfl) ⟨Nat.le_of_ble_eq_true rfl, Nat.le_of_ble_eq_true rfl⟩ ⟨rfl, rfl⟩ ?_
  refine a_iconst (-1) dX6_addServer_16 (by decide) ?_
  refine a_icmp_eq 30 dX6_addServer_17 (by decide) (fun c17 => ?_) (fun c17 => ?_)
  · refine a_aload_n dX6_addServer_30 rfl ?_
    refine a_get fl_X6_10 dX6_addServer_31 rfl rfl ?_
    refine a_ViR [1, 2, 3, 4, 5] k_X6_addServer_106 (c_X0_lowestFree (nm := (cS t).1) (wt := (cS t).2.1) (up := (cS t).2.2.1) (ld := (cS t).2.2.2.1)) dX6_addServer_34 rfl rfl rfl rfl rfl rfl (Nat.le_of_ble_eq_true rfl) ⟨Nat.le_of_ble_eq_true rfl, Nat.le_of_ble_eq_true rfl⟩ ⟨rfl, rfl⟩ ?_
    refine a_istore_n dX6_addServer_37 (by decide) rfl ?_
    refine a_iload_n dX6_addServer_38 rfl ?_
    refine a_iconst (-1) dX6_addServer_39 (by decide) ?_
    refine a_icmp_ne 53 dX6_addServer_40 (by decide) (fun c40 => ?_) (fun c40 => ?_)
    · rcases hh with hh | hh
      · exact absurd c17 hh
      · exact absurd hh c40
    · refine a_throw hl tw_105 tx_X6_109 rfl dX6_addServer_43 dX6_addServer_46 dX6_addServer_47 dX6_addServer_49 dX6_addServer_52 ⟨Nat.le_of_ble_eq_true rfl, Nat.le_of_ble_eq_true rfl⟩ (Nat.le_of_ble_eq_true rfl) (Nat.le_of_ble_eq_true rfl) ?_
      exact ⟨rfl, rfl⟩
  · refine a_throw hl tw_105 tx_X6_103 rfl dX6_addServer_20 dX6_addServer_23 dX6_addServer_24 dX6_addServer_26 dX6_addServer_29 ⟨Nat.le_of_ble_eq_true rfl, Nat.le_of_ble_eq_true rfl⟩ (Nat.le_of_ble_eq_true rfl) (Nat.le_of_ble_eq_true rfl) ?_
    exact ⟨rfl, rfl⟩
theorem c_X6_addServer_ok (hl : l.stackTraces = false) (ht : fOk t) (hb : bOk b) (hy : y.1 ≤ 4) (n w i : Nat) (hg : (gNm (nI n) && gWt (nI w)) = true) (hn : n ≤ 9999) (hw : w ≤ 16) (hi : i < 10) (h1 : fFn (cS t).1 (nI n) = -1) (h2 : fFn (cS t).1 0 = nI i) : aMt l X mX6_addServer [0] [.ref 0, .int (nI n), .int (nI w)] (aPT t b k y) (fun o h' => o = .inl (some (.int (nI i))) ∧ h' = aPT (fPut t i n w) (bRb (fPut t i n w) b) k (yRm t y)) := by
  refine aMt.of (by decide) rfl (Nat.le_of_ble_eq_true rfl) ?_
  rw [Bool.and_eq_true] at hg
  have hcn := c_X6_checkName (X := X) hl (nI n)
  have hcw := c_X6_checkWeight (X := X) hl (nI w)
  rw [if_pos hg.1] at hcn
  rw [if_pos hg.2] at hcw
  have hfd := c_X0_find (l := l) (X := X) (nm := (cS t).1) (wt := (cS t).2.1) (up := (cS t).2.2.1) (ld := (cS t).2.2.2.1) (nI n)
  rw [h1] at hfd
  have hlf := c_X0_lowestFree (l := l) (X := X) (nm := (cS t).1) (wt := (cS t).2.1) (up := (cS t).2.2.1) (ld := (cS t).2.2.2.1)
  rw [h2] at hlf
  refine a_iload_n dX6_addServer_0 rfl ?_
  refine a_Sr [] k_X6_addServer_92 (hcn) dX6_addServer_1 rfl rfl rfl rfl rfl (Nat.le_of_ble_eq_true rfl) ⟨Nat.le_of_ble_eq_true rfl, Nat.le_of_ble_eq_true rfl⟩ ?_
  refine a_iload_n dX6_addServer_4 rfl ?_
  refine a_Sr [] k_X6_addServer_95 (hcw) dX6_addServer_5 rfl rfl rfl rfl rfl (Nat.le_of_ble_eq_true rfl) ⟨Nat.le_of_ble_eq_true rfl, Nat.le_of_ble_eq_true rfl⟩ ?_
  refine a_aload_n dX6_addServer_8 rfl ?_
  refine a_get fl_X6_10 dX6_addServer_9 rfl rfl ?_
  refine a_iload_n dX6_addServer_12 rfl ?_
  refine a_ViR [1, 2, 3, 4, 5] k_X6_addServer_98 (hfd) dX6_addServer_13 rfl rfl rfl rfl rfl rfl (Nat.le_of_ble_eq_true rfl) ⟨Nat.le_of_ble_eq_true rfl, Nat.le_of_ble_eq_true rfl⟩ ⟨rfl, rfl⟩ ?_
  refine a_iconst (-1) dX6_addServer_16 (by decide) ?_
  refine a_icmp_eq 30 dX6_addServer_17 (by decide) (fun _ => ?_) (fun z => absurd rfl z)
  refine a_aload_n dX6_addServer_30 rfl ?_
  refine a_get fl_X6_10 dX6_addServer_31 rfl rfl ?_
  refine a_ViR [1, 2, 3, 4, 5] k_X6_addServer_106 (hlf) dX6_addServer_34 rfl rfl rfl rfl rfl rfl (Nat.le_of_ble_eq_true rfl) ⟨Nat.le_of_ble_eq_true rfl, Nat.le_of_ble_eq_true rfl⟩ ⟨rfl, rfl⟩ ?_
  refine a_istore_n dX6_addServer_37 (by decide) rfl ?_
  refine a_iload_n dX6_addServer_38 rfl ?_
  refine a_iconst (-1) dX6_addServer_39 (by decide) ?_
  refine a_icmp_ne 53 dX6_addServer_40 (by decide) (fun _ => ?_) (fun z => absurd z (nI_m1 (by omega)))
  refine a_aload_n dX6_addServer_53 rfl ?_
  refine a_get fl_X6_42 dX6_addServer_54 rfl rfl ?_
  refine a_aload_n dX6_addServer_57 rfl ?_
  refine a_get fl_X6_10 dX6_addServer_58 rfl rfl ?_
  refine a_aload_n dX6_addServer_61 rfl ?_
  refine a_get fl_X6_19 dX6_addServer_62 rfl rfl ?_
  refine a_VvW [17, 18, 19, 20, 21, 22, 23, 24, 25, 26, 27, 28, 29, 30, 31, 32, 33, 34, 35, 36, 37, 38, 39, 40, 41, 42, 43, 44, 45, 46, 47, 48, 49, 50, 51, 52, 53, 54, 1, 2, 3, 4, 5, 6, 7, 8] (aPT t b k (yRm t y)) k_X6_addServer_111 (n_remember (t := t) hy) dX6_addServer_65 rfl rfl rfl rfl rfl rfl (Nat.le_of_ble_eq_true rfl) ⟨Nat.le_of_ble_eq_true rfl, Nat.le_of_ble_eq_true rfl⟩ ⟨rfl, rfl⟩ (Nat.le_of_ble_eq_true rfl) rfl ?_
  refine a_aload_n dX6_addServer_68 rfl ?_
  refine a_get fl_X6_10 dX6_addServer_69 rfl rfl ?_
  refine a_iload_n dX6_addServer_72 rfl ?_
  refine a_iload_n dX6_addServer_73 rfl ?_
  refine a_iload_n dX6_addServer_74 rfl ?_
  refine a_VvW [1, 2, 3, 4, 5] (aPT (fPut t i n w) b k (yRm t y)) k_X6_addServer_115 (n_put (t := t) i n w hi) dX6_addServer_75 rfl rfl rfl rfl rfl rfl (Nat.le_of_ble_eq_true rfl) ⟨Nat.le_of_ble_eq_true rfl, Nat.le_of_ble_eq_true rfl⟩ ⟨rfl, rfl⟩ (Nat.le_of_ble_eq_true rfl) rfl ?_
  refine a_aload_n dX6_addServer_78 rfl ?_
  refine a_get fl_X6_28 dX6_addServer_79 rfl rfl ?_
  refine a_aload_n dX6_addServer_82 rfl ?_
  refine a_get fl_X6_10 dX6_addServer_83 rfl rfl ?_
  refine a_VvW [9, 10, 11, 12, 1, 2, 3, 4, 5] (aPT (fPut t i n w) (bRb (fPut t i n w) b) k (yRm t y)) k_X6_addServer_119 (n_rebuild (b := b) (fPut_ok (i := i) ht hn hw) hb) dX6_addServer_86 rfl rfl rfl rfl rfl rfl (Nat.le_of_ble_eq_true rfl) ⟨Nat.le_of_ble_eq_true rfl, Nat.le_of_ble_eq_true rfl⟩ ⟨rfl, rfl⟩ (Nat.le_of_ble_eq_true rfl) rfl ?_
  refine a_iload_n dX6_addServer_89 rfl ?_
  refine a_iret rfl dX6_addServer_90 (by decide) (by decide) ?_
  exact ⟨rfl, rfl⟩
abbrev pNs (t : fT) (s : Int32) : pT := pKe (fun _ k => decide (¬ k = s)) t.2.2.2.2.1 t.2.2.2.2.2.1 t.2.2.2.2.2.2
abbrev fRmv (t : fT) (i : Nat) : fT := fPin (fDrp t i) (pNs t (nI i))
theorem fRmv_ok {t : fT} {i : Nat} (ht : fOk t) : fOk (fRmv t i) := by
  refine fPin_ok (fDrp_ok ht) ?_
  have := pKe_le (fun _ k => decide (¬ k = nI i)) t.2.2.2.2.2.2 0 (t.2.2.2.2.1, t.2.2.2.2.2.1, 0) (Nat.le_refl _)
  have h6 := ht.2.2
  unfold pNs pKe
  omega
theorem c_X6_removeServer_bad (hl : l.stackTraces = false) (s : Int32) (hg : fHs (cS t).1 s = false) : aMt l X mX6_removeServer [0] [.ref 0, .int s] (aPT t b k y) (fun o h' => o = .inr IAE ∧ h' = aPT t b k y) := by
  refine aMt.of (by decide) rfl (Nat.le_of_ble_eq_true rfl) ?_
  have hck := c_X6_checkServer (X := X) (t := t) (b := b) (k := k) (y := y) hl s
  rw [hg] at hck
  refine a_aload_n dX6_removeServer_0 rfl ?_
  refine a_iload_n dX6_removeServer_1 rfl ?_
  refine a_Vx is55 k_X6_removeServer_123 (hck) dX6_removeServer_2 rfl rfl rfl rfl rfl rfl (Nat.le_of_ble_eq_true rfl) ⟨Nat.le_of_ble_eq_true rfl, Nat.le_of_ble_eq_true rfl⟩ rfl ?_
  exact ⟨rfl, rfl⟩
theorem c_X6_removeServer_ok (hl : l.stackTraces = false) (ht : fOk t) (hb : bOk b) (hy : y.1 ≤ 4) (i : Nat) (hi : i < 10) (hg : fHs (cS t).1 (nI i) = true) : aMt l X mX6_removeServer [0] [.ref 0, .int (nI i)] (aPT t b k y) (fun o h' => o = .inl (some (.long (t.2.2.2.1 i))) ∧ h' = aPT (fRmv t i) (bRb (fRmv t i) b) k (yRm t y)) := by
  refine aMt.of (by decide) rfl (Nat.le_of_ble_eq_true rfl) ?_
  have hck := c_X6_checkServer (X := X) (t := t) (b := b) (k := k) (y := y) hl (nI i)
  rw [if_pos hg] at hck
  have hld := c_X0_load (l := l) (X := X) (nm := (cS t).1) (wt := (cS t).2.1) (up := (cS t).2.2.1) (ld := (cS t).2.2.2.1) (nI i)
  rw [if_pos hg, cl10 hi] at hld
  refine a_aload_n dX6_removeServer_0 rfl ?_
  refine a_iload_n dX6_removeServer_1 rfl ?_
  refine a_Vr is55 k_X6_removeServer_123 (hck) dX6_removeServer_2 rfl rfl rfl rfl rfl rfl (Nat.le_of_ble_eq_true rfl) ⟨Nat.le_of_ble_eq_true rfl, Nat.le_of_ble_eq_true rfl⟩ ?_
  refine a_aload_n dX6_removeServer_5 rfl ?_
  refine a_get fl_X6_10 dX6_removeServer_6 rfl rfl ?_
  refine a_iload_n dX6_removeServer_9 rfl ?_
  refine a_VlR [1, 2, 3, 4, 5] k_X6_removeServer_126 (hld) dX6_removeServer_10 rfl rfl rfl rfl rfl rfl (Nat.le_of_ble_eq_true rfl) ⟨Nat.le_of_ble_eq_true rfl, Nat.le_of_ble_eq_true rfl⟩ ⟨rfl, rfl⟩ ?_
  refine a_lstore_n dX6_removeServer_13 (by decide) rfl ?_
  refine a_aload_n dX6_removeServer_14 rfl ?_
  refine a_get fl_X6_42 dX6_removeServer_15 rfl rfl ?_
  refine a_aload_n dX6_removeServer_18 rfl ?_
  refine a_get fl_X6_10 dX6_removeServer_19 rfl rfl ?_
  refine a_aload_n dX6_removeServer_22 rfl ?_
  refine a_get fl_X6_19 dX6_removeServer_23 rfl rfl ?_
  refine a_VvW [17, 18, 19, 20, 21, 22, 23, 24, 25, 26, 27, 28, 29, 30, 31, 32, 33, 34, 35, 36, 37, 38, 39, 40, 41, 42, 43, 44, 45, 46, 47, 48, 49, 50, 51, 52, 53, 54, 1, 2, 3, 4, 5, 6, 7, 8] (aPT t b k (yRm t y)) k_X6_removeServer_111 (n_remember (t := t) hy) dX6_removeServer_26 rfl rfl rfl rfl rfl rfl (Nat.le_of_ble_eq_true rfl) ⟨Nat.le_of_ble_eq_true rfl, Nat.le_of_ble_eq_true rfl⟩ ⟨rfl, rfl⟩ (Nat.le_of_ble_eq_true rfl) rfl ?_
  refine a_aload_n dX6_removeServer_29 rfl ?_
  refine a_get fl_X6_10 dX6_removeServer_30 rfl rfl ?_
  refine a_iload_n dX6_removeServer_33 rfl ?_
  refine a_VvW [1, 2, 3, 4, 5] (aPT (fDrp t i) b k (yRm t y)) k_X6_removeServer_130 (n_drop (t := t) i hi) dX6_removeServer_34 rfl rfl rfl rfl rfl rfl (Nat.le_of_ble_eq_true rfl) ⟨Nat.le_of_ble_eq_true rfl, Nat.le_of_ble_eq_true rfl⟩ ⟨rfl, rfl⟩ (Nat.le_of_ble_eq_true rfl) rfl ?_
  refine a_aload_n dX6_removeServer_37 rfl ?_
  refine a_get fl_X6_19 dX6_removeServer_38 rfl rfl ?_
  refine a_iload_n dX6_removeServer_41 rfl ?_
  refine a_VvW [6, 7, 8] (aPT (fRmv t i) b k (yRm t y)) k_X6_removeServer_133 (c_X2_dropServer (pk := t.2.2.2.2.1) (ps := t.2.2.2.2.2.1) ht.2.2 (nI i)) dX6_removeServer_42 rfl rfl rfl rfl rfl rfl (Nat.le_of_ble_eq_true rfl) ⟨Nat.le_of_ble_eq_true rfl, Nat.le_of_ble_eq_true rfl⟩ ⟨rfl, rfl⟩ (Nat.le_of_ble_eq_true rfl) rfl ?_
  refine a_aload_n dX6_removeServer_45 rfl ?_
  refine a_get fl_X6_28 dX6_removeServer_46 rfl rfl ?_
  refine a_aload_n dX6_removeServer_49 rfl ?_
  refine a_get fl_X6_10 dX6_removeServer_50 rfl rfl ?_
  refine a_VvW [9, 10, 11, 12, 1, 2, 3, 4, 5] (aPT (fRmv t i) (bRb (fRmv t i) b) k (yRm t y)) k_X6_removeServer_119 (n_rebuild (b := b) (fRmv_ok (i := i) ht) hb) dX6_removeServer_53 rfl rfl rfl rfl rfl rfl (Nat.le_of_ble_eq_true rfl) ⟨Nat.le_of_ble_eq_true rfl, Nat.le_of_ble_eq_true rfl⟩ ⟨rfl, rfl⟩ (Nat.le_of_ble_eq_true rfl) rfl ?_
  refine a_lload_n dX6_removeServer_56 rfl ?_
  refine a_lret rfl dX6_removeServer_57 (by decide) (by decide) ?_
  exact ⟨rfl, rfl⟩
theorem c_X6_setWeight_bad (hl : l.stackTraces = false) (s w : Int32) (hg : (fHs (cS t).1 s && gWt w) = false) : aMt l X mX6_setWeight [0] [.ref 0, .int s, .int w] (aPT t b k y) (fun o h' => o = .inr IAE ∧ h' = aPT t b k y) := by
  refine aMt.of (by decide) rfl (Nat.le_of_ble_eq_true rfl) ?_
  have hck := c_X6_checkServer (X := X) (t := t) (b := b) (k := k) (y := y) hl s
  by_cases h1 : fHs (cS t).1 s = true
  · rw [if_pos h1] at hck
    have h2 : ¬ gWt w = true := by intro z; rw [h1, z] at hg; cases hg
    have hcw := c_X6_checkWeight (X := X) hl w
    rw [if_neg h2] at hcw
    refine a_aload_n dX6_setWeight_0 rfl ?_
    refine a_iload_n dX6_setWeight_1 rfl ?_
    refine a_Vr is55 k_X6_setWeight_123 (hck) dX6_setWeight_2 rfl rfl rfl rfl rfl rfl (Nat.le_of_ble_eq_true rfl) ⟨Nat.le_of_ble_eq_true rfl, Nat.le_of_ble_eq_true rfl⟩ ?_
    refine a_iload_n dX6_setWeight_5 rfl ?_
    refine a_Sx [] k_X6_setWeight_95 (hcw) dX6_setWeight_6 rfl rfl rfl rfl rfl (Nat.le_of_ble_eq_true rfl) ⟨Nat.le_of_ble_eq_true rfl, Nat.le_of_ble_eq_true rfl⟩ rfl ?_
    exact ⟨rfl, rfl⟩
  · rw [if_neg h1] at hck
    refine a_aload_n dX6_setWeight_0 rfl ?_
    refine a_iload_n dX6_setWeight_1 rfl ?_
    refine a_Vx is55 k_X6_setWeight_123 (hck) dX6_setWeight_2 rfl rfl rfl rfl rfl rfl (Nat.le_of_ble_eq_true rfl) ⟨Nat.le_of_ble_eq_true rfl, Nat.le_of_ble_eq_true rfl⟩ rfl ?_
    exact ⟨rfl, rfl⟩
theorem c_X6_setWeight_ok (hl : l.stackTraces = false) (ht : fOk t) (hb : bOk b) (hy : y.1 ≤ 4) (i w : Nat) (hi : i < 10) (hw : w ≤ 16) (hg : fHs (cS t).1 (nI i) = true) (hgw : gWt (nI w) = true) : aMt l X mX6_setWeight [0] [.ref 0, .int (nI i), .int (nI w)] (aPT t b k y) (fun o h' => o = .inl (some (.int (nI (t.2.1 i)))) ∧ h' = aPT (fSwt t i w) (bRb (fSwt t i w) b) k (yRm t y)) := by
  refine aMt.of (by decide) rfl (Nat.le_of_ble_eq_true rfl) ?_
  have hck := c_X6_checkServer (X := X) (t := t) (b := b) (k := k) (y := y) hl (nI i)
  rw [if_pos hg] at hck
  have hcw := c_X6_checkWeight (X := X) hl (nI w)
  rw [if_pos hgw] at hcw
  have hwt := c_X0_weight (l := l) (X := X) (nm := (cS t).1) (wt := (cS t).2.1) (up := (cS t).2.2.1) (ld := (cS t).2.2.2.1) (nI i)
  rw [if_pos hg, cl10 hi] at hwt
  refine a_aload_n dX6_setWeight_0 rfl ?_
  refine a_iload_n dX6_setWeight_1 rfl ?_
  refine a_Vr is55 k_X6_setWeight_123 (hck) dX6_setWeight_2 rfl rfl rfl rfl rfl rfl (Nat.le_of_ble_eq_true rfl) ⟨Nat.le_of_ble_eq_true rfl, Nat.le_of_ble_eq_true rfl⟩ ?_
  refine a_iload_n dX6_setWeight_5 rfl ?_
  refine a_Sr [] k_X6_setWeight_95 (hcw) dX6_setWeight_6 rfl rfl rfl rfl rfl (Nat.le_of_ble_eq_true rfl) ⟨Nat.le_of_ble_eq_true rfl, Nat.le_of_ble_eq_true rfl⟩ ?_
  refine a_aload_n dX6_setWeight_9 rfl ?_
  refine a_get fl_X6_10 dX6_setWeight_10 rfl rfl ?_
  refine a_iload_n dX6_setWeight_13 rfl ?_
  refine a_ViR [1, 2, 3, 4, 5] k_X6_setWeight_136 (hwt) dX6_setWeight_14 rfl rfl rfl rfl rfl rfl (Nat.le_of_ble_eq_true rfl) ⟨Nat.le_of_ble_eq_true rfl, Nat.le_of_ble_eq_true rfl⟩ ⟨rfl, rfl⟩ ?_
  refine a_istore_n dX6_setWeight_17 (by decide) rfl ?_
  refine a_aload_n dX6_setWeight_18 rfl ?_
  refine a_get fl_X6_42 dX6_setWeight_19 rfl rfl ?_
  refine a_aload_n dX6_setWeight_22 rfl ?_
  refine a_get fl_X6_10 dX6_setWeight_23 rfl rfl ?_
  refine a_aload_n dX6_setWeight_26 rfl ?_
  refine a_get fl_X6_19 dX6_setWeight_27 rfl rfl ?_
  refine a_VvW [17, 18, 19, 20, 21, 22, 23, 24, 25, 26, 27, 28, 29, 30, 31, 32, 33, 34, 35, 36, 37, 38, 39, 40, 41, 42, 43, 44, 45, 46, 47, 48, 49, 50, 51, 52, 53, 54, 1, 2, 3, 4, 5, 6, 7, 8] (aPT t b k (yRm t y)) k_X6_setWeight_111 (n_remember (t := t) hy) dX6_setWeight_30 rfl rfl rfl rfl rfl rfl (Nat.le_of_ble_eq_true rfl) ⟨Nat.le_of_ble_eq_true rfl, Nat.le_of_ble_eq_true rfl⟩ ⟨rfl, rfl⟩ (Nat.le_of_ble_eq_true rfl) rfl ?_
  refine a_aload_n dX6_setWeight_33 rfl ?_
  refine a_get fl_X6_10 dX6_setWeight_34 rfl rfl ?_
  refine a_iload_n dX6_setWeight_37 rfl ?_
  refine a_iload_n dX6_setWeight_38 rfl ?_
  refine a_VvW [1, 2, 3, 4, 5] (aPT (fSwt t i w) b k (yRm t y)) k_X6_setWeight_139 (n_changeWeight (t := t) i w hi hg) dX6_setWeight_39 rfl rfl rfl rfl rfl rfl (Nat.le_of_ble_eq_true rfl) ⟨Nat.le_of_ble_eq_true rfl, Nat.le_of_ble_eq_true rfl⟩ ⟨rfl, rfl⟩ (Nat.le_of_ble_eq_true rfl) rfl ?_
  refine a_aload_n dX6_setWeight_42 rfl ?_
  refine a_get fl_X6_28 dX6_setWeight_43 rfl rfl ?_
  refine a_aload_n dX6_setWeight_46 rfl ?_
  refine a_get fl_X6_10 dX6_setWeight_47 rfl rfl ?_
  refine a_VvW [9, 10, 11, 12, 1, 2, 3, 4, 5] (aPT (fSwt t i w) (bRb (fSwt t i w) b) k (yRm t y)) k_X6_setWeight_119 (n_rebuild (b := b) (fSwt_ok (i := i) ht hw) hb) dX6_setWeight_50 rfl rfl rfl rfl rfl rfl (Nat.le_of_ble_eq_true rfl) ⟨Nat.le_of_ble_eq_true rfl, Nat.le_of_ble_eq_true rfl⟩ ⟨rfl, rfl⟩ (Nat.le_of_ble_eq_true rfl) rfl ?_
  refine a_iload_n dX6_setWeight_53 rfl ?_
  refine a_iret rfl dX6_setWeight_54 (by decide) (by decide) ?_
  exact ⟨rfl, rfl⟩
theorem c_X6_setUp_bad (hl : l.stackTraces = false) (s : Int32) (u : Bool) (hg : fHs (cS t).1 s = false) : aMt l X mX6_setUp [0] [.ref 0, .int s, .int (bI u)] (aPT t b k y) (fun o h' => o = .inr IAE ∧ h' = aPT t b k y) := by
  refine aMt.of (by decide) rfl (Nat.le_of_ble_eq_true rfl) ?_
  have hck := c_X6_checkServer (X := X) (t := t) (b := b) (k := k) (y := y) hl s
  rw [hg] at hck
  refine a_aload_n dX6_setUp_0 rfl ?_
  refine a_iload_n dX6_setUp_1 rfl ?_
  refine a_Vx is55 k_X6_setUp_123 (hck) dX6_setUp_2 rfl rfl rfl rfl rfl rfl (Nat.le_of_ble_eq_true rfl) ⟨Nat.le_of_ble_eq_true rfl, Nat.le_of_ble_eq_true rfl⟩ rfl ?_
  exact ⟨rfl, rfl⟩
theorem c_X6_setUp_ok (hl : l.stackTraces = false) (ht : fOk t) (hb : bOk b) (hy : y.1 ≤ 4) (i : Nat) (u : Bool) (hi : i < 10) (hg : fHs (cS t).1 (nI i) = true) : aMt l X mX6_setUp [0] [.ref 0, .int (nI i), .int (bI u)] (aPT t b k y) (fun o h' => o = .inl (some (.int (bI (fUp (cS t).1 (cS t).2.2.1 (nI i))))) ∧ h' = aPT (fSup t i u) (bRb (fSup t i u) b) k (yRm t y)) := by
  refine aMt.of (by decide) rfl (Nat.le_of_ble_eq_true rfl) ?_
  have hck := c_X6_checkServer (X := X) (t := t) (b := b) (k := k) (y := y) hl (nI i)
  rw [if_pos hg] at hck
  refine a_aload_n dX6_setUp_0 rfl ?_
  refine a_iload_n dX6_setUp_1 rfl ?_
  refine a_Vr is55 k_X6_setUp_123 (hck) dX6_setUp_2 rfl rfl rfl rfl rfl rfl (Nat.le_of_ble_eq_true rfl) ⟨Nat.le_of_ble_eq_true rfl, Nat.le_of_ble_eq_true rfl⟩ ?_
  refine a_aload_n dX6_setUp_5 rfl ?_
  refine a_get fl_X6_10 dX6_setUp_6 rfl rfl ?_
  refine a_iload_n dX6_setUp_9 rfl ?_
  refine a_ViR [1, 2, 3, 4, 5] k_X6_setUp_143 (c_X0_isUp (nm := (cS t).1) (wt := (cS t).2.1) (up := (cS t).2.2.1) (ld := (cS t).2.2.2.1) (nI i)) dX6_setUp_10 rfl rfl rfl rfl rfl rfl (Nat.le_of_ble_eq_true rfl) ⟨Nat.le_of_ble_eq_true rfl, Nat.le_of_ble_eq_true rfl⟩ ⟨rfl, rfl⟩ ?_
  refine a_istore_n dX6_setUp_13 (by decide) rfl ?_
  refine a_aload_n dX6_setUp_14 rfl ?_
  refine a_get fl_X6_42 dX6_setUp_15 rfl rfl ?_
  refine a_aload_n dX6_setUp_18 rfl ?_
  refine a_get fl_X6_10 dX6_setUp_19 rfl rfl ?_
  refine a_aload_n dX6_setUp_22 rfl ?_
  refine a_get fl_X6_19 dX6_setUp_23 rfl rfl ?_
  refine a_VvW [17, 18, 19, 20, 21, 22, 23, 24, 25, 26, 27, 28, 29, 30, 31, 32, 33, 34, 35, 36, 37, 38, 39, 40, 41, 42, 43, 44, 45, 46, 47, 48, 49, 50, 51, 52, 53, 54, 1, 2, 3, 4, 5, 6, 7, 8] (aPT t b k (yRm t y)) k_X6_setUp_111 (n_remember (t := t) hy) dX6_setUp_26 rfl rfl rfl rfl rfl rfl (Nat.le_of_ble_eq_true rfl) ⟨Nat.le_of_ble_eq_true rfl, Nat.le_of_ble_eq_true rfl⟩ ⟨rfl, rfl⟩ (Nat.le_of_ble_eq_true rfl) rfl ?_
  refine a_aload_n dX6_setUp_29 rfl ?_
  refine a_get fl_X6_10 dX6_setUp_30 rfl rfl ?_
  refine a_iload_n dX6_setUp_33 rfl ?_
  refine a_iload_n dX6_setUp_34 rfl ?_
  refine a_VvW [1, 2, 3, 4, 5] (aPT (fSup t i u) b k (yRm t y)) k_X6_setUp_146 (n_changeUp (t := t) i u hi hg) dX6_setUp_35 rfl rfl rfl rfl rfl rfl (Nat.le_of_ble_eq_true rfl) ⟨Nat.le_of_ble_eq_true rfl, Nat.le_of_ble_eq_true rfl⟩ ⟨rfl, rfl⟩ (Nat.le_of_ble_eq_true rfl) rfl ?_
  refine a_aload_n dX6_setUp_38 rfl ?_
  refine a_get fl_X6_28 dX6_setUp_39 rfl rfl ?_
  refine a_aload_n dX6_setUp_42 rfl ?_
  refine a_get fl_X6_10 dX6_setUp_43 rfl rfl ?_
  refine a_VvW [9, 10, 11, 12, 1, 2, 3, 4, 5] (aPT (fSup t i u) (bRb (fSup t i u) b) k (yRm t y)) k_X6_setUp_119 (n_rebuild (t := fSup t i u) (b := b) ⟨ht.1, ht.2.1, ht.2.2⟩ hb) dX6_setUp_46 rfl rfl rfl rfl rfl rfl (Nat.le_of_ble_eq_true rfl) ⟨Nat.le_of_ble_eq_true rfl, Nat.le_of_ble_eq_true rfl⟩ ⟨rfl, rfl⟩ (Nat.le_of_ble_eq_true rfl) rfl ?_
  refine a_iload_n dX6_setUp_49 rfl ?_
  refine a_zret rfl (bI_nar _) dX6_setUp_50 (by decide) (by decide) ?_
  exact ⟨rfl, rfl⟩
theorem c_X6_undo_bad (hl : l.stackTraces = false) (hz : y.1 = 0) : aMt l X mX6_undo [0] [.ref 0] (aPT t b k y) (fun o h' => o = .inr ISE ∧ h' = aPT t b k y) := by
  refine aMt.of (by decide) rfl (Nat.le_of_ble_eq_true rfl) ?_
  have hsz := c_X1_size (l := l) (X := X) (z := y.1) (s0 := cS y.2.1) (s1 := cS y.2.2.1) (s2 := cS y.2.2.2.1) (s3 := cS y.2.2.2.2)
  refine a_aload_n dX6_undo_0 rfl ?_
  refine a_get fl_X6_42 dX6_undo_1 rfl rfl ?_
  refine a_ViR [17, 18, 19, 20, 21, 22, 23, 24, 25, 26, 27, 28, 29, 30, 31, 32, 33, 34, 35, 36, 37, 38, 39, 40, 41, 42, 43, 44, 45, 46, 47, 48, 49, 50, 51, 52, 53, 54] k_X6_undo_217 (hsz) dX6_undo_4 rfl rfl rfl rfl rfl rfl (Nat.le_of_ble_eq_true rfl) ⟨Nat.le_of_ble_eq_true rfl, Nat.le_of_ble_eq_true rfl⟩ ⟨rfl, rfl⟩ ?_
  refine a_if_ne 20 dX6_undo_7 (by decide) (fun z => absurd (by rw [hz]; rfl) z) (fun _ => ?_)
  refine a_throw hl tw_105 tx_X6_218 rfl dX6_undo_10 dX6_undo_13 dX6_undo_14 dX6_undo_16 dX6_undo_19 ⟨Nat.le_of_ble_eq_true rfl, Nat.le_of_ble_eq_true rfl⟩ (Nat.le_of_ble_eq_true rfl) (Nat.le_of_ble_eq_true rfl) ?_
  exact ⟨rfl, rfl⟩
theorem c_X6_undo_ok (hs : fOk y.2.1) (hb : bOk b) (h0 : 0 < y.1) (hy : y.1 ≤ 4) : aMt l X mX6_undo [0] [.ref 0] (aPT t b k y) (fun o h' => o = .inl (some (.int (nI (y.1 - 1)))) ∧ h' = aPT (sCN y.2.1 t) (bRb (sCN y.2.1 t) b) k (yBk y)) := by
  refine aMt.of (by decide) rfl (Nat.le_of_ble_eq_true rfl) ?_
  have hsz := c_X1_size (l := l) (X := X) (z := y.1) (s0 := cS y.2.1) (s1 := cS y.2.2.1) (s2 := cS y.2.2.2.1) (s3 := cS y.2.2.2.2)
  refine a_aload_n dX6_undo_0 rfl ?_
  refine a_get fl_X6_42 dX6_undo_1 rfl rfl ?_
  refine a_ViR [17, 18, 19, 20, 21, 22, 23, 24, 25, 26, 27, 28, 29, 30, 31, 32, 33, 34, 35, 36, 37, 38, 39, 40, 41, 42, 43, 44, 45, 46, 47, 48, 49, 50, 51, 52, 53, 54] k_X6_undo_217 (hsz) dX6_undo_4 rfl rfl rfl rfl rfl rfl (Nat.le_of_ble_eq_true rfl) ⟨Nat.le_of_ble_eq_true rfl, Nat.le_of_ble_eq_true rfl⟩ ⟨rfl, rfl⟩ ?_
  refine a_if_ne 20 dX6_undo_7 (by decide) (fun _ => ?_) (fun z => absurd z (nI_ne0 h0 (by omega)))
  refine a_aload_n dX6_undo_20 rfl ?_
  refine a_get fl_X6_42 dX6_undo_21 rfl rfl ?_
  refine a_aload_n dX6_undo_24 rfl ?_
  refine a_get fl_X6_10 dX6_undo_25 rfl rfl ?_
  refine a_aload_n dX6_undo_28 rfl ?_
  refine a_get fl_X6_19 dX6_undo_29 rfl rfl ?_
  refine a_VvW [17, 18, 19, 20, 21, 22, 23, 24, 25, 26, 27, 28, 29, 30, 31, 32, 33, 34, 35, 36, 37, 38, 39, 40, 41, 42, 43, 44, 45, 46, 47, 48, 49, 50, 51, 52, 53, 54, 1, 2, 3, 4, 5, 6, 7, 8] (aPT (sCN y.2.1 t) b k (yBk y)) k_X6_undo_220 (n_bringBack (t := t) h0 hy) dX6_undo_32 rfl rfl rfl rfl rfl rfl (Nat.le_of_ble_eq_true rfl) ⟨Nat.le_of_ble_eq_true rfl, Nat.le_of_ble_eq_true rfl⟩ ⟨rfl, rfl⟩ (Nat.le_of_ble_eq_true rfl) rfl ?_
  refine a_aload_n dX6_undo_35 rfl ?_
  refine a_get fl_X6_28 dX6_undo_36 rfl rfl ?_
  refine a_aload_n dX6_undo_39 rfl ?_
  refine a_get fl_X6_10 dX6_undo_40 rfl rfl ?_
  refine a_VvW [9, 10, 11, 12, 1, 2, 3, 4, 5] (aPT (sCN y.2.1 t) (bRb (sCN y.2.1 t) b) k (yBk y)) k_X6_undo_119 (n_rebuild (b := b) (sCN_ok (t := t) hs) hb) dX6_undo_43 rfl rfl rfl rfl rfl rfl (Nat.le_of_ble_eq_true rfl) ⟨Nat.le_of_ble_eq_true rfl, Nat.le_of_ble_eq_true rfl⟩ ⟨rfl, rfl⟩ (Nat.le_of_ble_eq_true rfl) rfl ?_
  refine a_aload_n dX6_undo_46 rfl ?_
  refine a_get fl_X6_42 dX6_undo_47 rfl rfl ?_
  refine a_ViR [17, 18, 19, 20, 21, 22, 23, 24, 25, 26, 27, 28, 29, 30, 31, 32, 33, 34, 35, 36, 37, 38, 39, 40, 41, 42, 43, 44, 45, 46, 47, 48, 49, 50, 51, 52, 53, 54] k_X6_undo_217 (c_X1_size (z := y.1 - 1) (s0 := cS y.2.2.1) (s1 := cS y.2.2.2.1) (s2 := cS y.2.2.2.2) (s3 := cS y.2.1)) dX6_undo_50 rfl rfl rfl rfl rfl rfl (Nat.le_of_ble_eq_true rfl) ⟨Nat.le_of_ble_eq_true rfl, Nat.le_of_ble_eq_true rfl⟩ ⟨rfl, rfl⟩ ?_
  refine a_iret rfl dX6_undo_53 (by decide) (by decide) ?_
  exact ⟨rfl, rfl⟩
/-- shares -/
def fSh (t : fT) (M : Nat) (s : Int32) : UInt64 := if decide (fWs (cS t).1 (cS t).2.1 (cS t).2.2.1 ≤ 0) || !(fUp (cS t).1 (cS t).2.2.1 s) then FP.dconst0 else FP.ddiv (FP.i2d (nI M * fWt (cS t).1 (cS t).2.1 s)) (FP.i2d (fWs (cS t).1 (cS t).2.1 (cS t).2.2.1))
theorem c_X6_shareOf (s : Int32) (hn : vf_n64 (fSh t b.1 s)) : aRd l X mX6_shareOf [0] [.ref 0, .int s] (aPT t b k y) (.double (fSh t b.1 s)) := by
  refine aMt.of (by decide) rfl (Nat.le_of_ble_eq_true rfl) ?_
  refine a_aload_n dX6_shareOf_0 rfl ?_
  refine a_get fl_X6_10 dX6_shareOf_1 rfl rfl ?_
  refine a_ViR [1, 2, 3, 4, 5] k_X6_shareOf_244 (c_X0_weightSum (nm := (cS t).1) (wt := (cS t).2.1) (up := (cS t).2.2.1) (ld := (cS t).2.2.2.1)) dX6_shareOf_4 rfl rfl rfl rfl rfl rfl (Nat.le_of_ble_eq_true rfl) ⟨Nat.le_of_ble_eq_true rfl, Nat.le_of_ble_eq_true rfl⟩ ⟨rfl, rfl⟩ ?_
  refine a_istore_n dX6_shareOf_7 (by decide) rfl ?_
  refine a_iload_n dX6_shareOf_8 rfl ?_
  refine a_if_le 23 dX6_shareOf_9 (by decide) (fun c9 => ?_) (fun c9 => ?_)
  · refine a_dconst0 dX6_shareOf_23 ?_
    refine a_dret rfl dX6_shareOf_24 (by decide) (by decide) ?_
    exact ⟨by simp [fSh, c9], rfl⟩
  · refine a_aload_n dX6_shareOf_12 rfl ?_
    refine a_get fl_X6_10 dX6_shareOf_13 rfl rfl ?_
    refine a_iload_n dX6_shareOf_16 rfl ?_
    refine a_ViR [1, 2, 3, 4, 5] k_X6_shareOf_143 (c_X0_isUp (nm := (cS t).1) (wt := (cS t).2.1) (up := (cS t).2.2.1) (ld := (cS t).2.2.2.1) s) dX6_shareOf_17 rfl rfl rfl rfl rfl rfl (Nat.le_of_ble_eq_true rfl) ⟨Nat.le_of_ble_eq_true rfl, Nat.le_of_ble_eq_true rfl⟩ ⟨rfl, rfl⟩ ?_
    refine a_if_ne 25 dX6_shareOf_20 (by decide) (fun c20 => ?_) (fun c20 => ?_)
    · have e : fSh t b.1 s = FP.ddiv (FP.i2d (nI b.1 * fWt (cS t).1 (cS t).2.1 s)) (FP.i2d (fWs (cS t).1 (cS t).2.1 (cS t).2.2.1)) := by simp [fSh, c9, bI_1 c20]
      rw [e] at hn
      refine a_aload_n dX6_shareOf_25 rfl ?_
      refine a_get fl_X6_28 dX6_shareOf_26 rfl rfl ?_
      refine a_ViR [9, 10, 11, 12] k_X6_shareOf_57 (c_X3_size (M := b.1) (ow := b.2.1) (dr := b.2.2.1) (tr := b.2.2.2.1) (ch := b.2.2.2.2.1) (fo := b.2.2.2.2.2)) dX6_shareOf_29 rfl rfl rfl rfl rfl rfl (Nat.le_of_ble_eq_true rfl) ⟨Nat.le_of_ble_eq_true rfl, Nat.le_of_ble_eq_true rfl⟩ ⟨rfl, rfl⟩ ?_
      refine a_aload_n dX6_shareOf_32 rfl ?_
      refine a_get fl_X6_10 dX6_shareOf_33 rfl rfl ?_
      refine a_iload_n dX6_shareOf_36 rfl ?_
      refine a_ViR [1, 2, 3, 4, 5] k_X6_shareOf_136 (c_X0_weight (nm := (cS t).1) (wt := (cS t).2.1) (up := (cS t).2.2.1) (ld := (cS t).2.2.2.1) s) dX6_shareOf_37 rfl rfl rfl rfl rfl rfl (Nat.le_of_ble_eq_true rfl) ⟨Nat.le_of_ble_eq_true rfl, Nat.le_of_ble_eq_true rfl⟩ ⟨rfl, rfl⟩ ?_
      refine a_imul dX6_shareOf_40 ?_
      refine a_i2d dX6_shareOf_41 ?_
      refine a_iload_n dX6_shareOf_42 rfl ?_
      refine a_i2d dX6_shareOf_43 ?_
      refine a_ddiv dX6_shareOf_44 hn ?_
      refine a_dret rfl dX6_shareOf_45 (by decide) (by decide) ?_
      exact ⟨by rw [e]; rfl, rfl⟩
    · refine a_dconst0 dX6_shareOf_23 ?_
      refine a_dret rfl dX6_shareOf_24 (by decide) (by decide) ?_
      exact ⟨by simp [fSh, bI_0 c20], rfl⟩
theorem c_X6_idealShare (hl : l.stackTraces = false) (s : Int32) (hn : fHs (cS t).1 s = true → vf_n64 (fSh t b.1 s)) : aMt l X mX6_idealShare [0] [.ref 0, .int s] (aPT t b k y) (fun o h' => o = (if fHs (cS t).1 s then .inl (some (.double (fSh t b.1 s))) else .inr IAE) ∧ h' = aPT t b k y) := by
  refine aMt.of (by decide) rfl (Nat.le_of_ble_eq_true rfl) ?_
  have hck := c_X6_checkServer (X := X) (t := t) (b := b) (k := k) (y := y) hl s
  by_cases hg : fHs (cS t).1 s = true
  · rw [if_pos hg] at hck ⊢
    refine a_aload_n dX6_idealShare_0 rfl ?_
    refine a_iload_n dX6_idealShare_1 rfl ?_
    refine a_Vr is55 k_X6_idealShare_123 (hck) dX6_idealShare_2 rfl rfl rfl rfl rfl rfl (Nat.le_of_ble_eq_true rfl) ⟨Nat.le_of_ble_eq_true rfl, Nat.le_of_ble_eq_true rfl⟩ ?_
    refine a_aload_n dX6_idealShare_5 rfl ?_
    refine a_iload_n dX6_idealShare_6 rfl ?_
    refine a_VdR is55 k_X6_idealShare_85 (c_X6_shareOf s (hn hg)) dX6_idealShare_7 rfl rfl rfl rfl rfl rfl (Nat.le_of_ble_eq_true rfl) ⟨Nat.le_of_ble_eq_true rfl, Nat.le_of_ble_eq_true rfl⟩ ⟨rfl, rfl⟩ ?_
    refine a_dret rfl dX6_idealShare_10 (by decide) (by decide) ?_
    exact ⟨rfl, rfl⟩
  · rw [if_neg hg] at hck ⊢
    refine a_aload_n dX6_idealShare_0 rfl ?_
    refine a_iload_n dX6_idealShare_1 rfl ?_
    refine a_Vx is55 k_X6_idealShare_123 (hck) dX6_idealShare_2 rfl rfl rfl rfl rfl rfl (Nat.le_of_ble_eq_true rfl) ⟨Nat.le_of_ble_eq_true rfl, Nat.le_of_ble_eq_true rfl⟩ rfl ?_
    exact ⟨rfl, rfl⟩
def fIm (t : fT) (b : bT) (j : Nat) (a : UInt64) : UInt64 := if 0 < Op.cmpValue (FP.dcmp (fSh t b.1 (nI j)) FP.dconst0) .l then (if 0 < Op.cmpValue (FP.dcmp (FP.ddiv (FP.i2d (sOb b.2.1 b.1 (nI j))) (fSh t b.1 (nI j))) a) .l then FP.ddiv (FP.i2d (sOb b.2.1 b.1 (nI j))) (fSh t b.1 (nI j)) else a) else a
theorem c_X6_imbalance (hb : bOk b) (hn : ∀ j, j < 10 → vf_n64 (fSh t b.1 (nI j))) (hq : ∀ j, j < 10 → 0 < Op.cmpValue (FP.dcmp (fSh t b.1 (nI j)) FP.dconst0) .l → vf_n64 (FP.ddiv (FP.i2d (sOb b.2.1 b.1 (nI j))) (fSh t b.1 (nI j)))) : aRd l X mX6_imbalance [0] [.ref 0] (aPT t b k y) (.double (aLp (fIm t b) 10 0 FP.dconst0)) := by
  refine aMt.of (by decide) rfl (Nat.le_of_ble_eq_true rfl) ?_
  generalize hr : aLp (fIm t b) 10 0 FP.dconst0 = r
  refine a_dconst0 dX6_imbalance_0 ?_
  refine a_dstore_n dX6_imbalance_1 (by decide) rfl ?_
  refine a_iconst 0 dX6_imbalance_2 (by decide) ?_
  refine a_istore_n dX6_imbalance_3 (by decide) rfl ?_
  have lp : ∀ (n j : Nat) (a : UInt64), j + n = 10 → aLp (fIm t b) n j a = r → aJ l X mX6_imbalance (aEd X mX6_imbalance [0] (fun o h' => o = .inl (some (.double r)) ∧ h' = aPT t b k y)) 0 0 4 [.ref 0, .double a, .null, .int (nI j), .null, .null, .null, .null] [] (aPT t b k y) := by
    intro n
    induction n with
    | zero =>
      intro j a hj hq
      obtain rfl : j = 10 := by omega
      refine a_iload_n dX6_imbalance_4 rfl ?_
      refine a_bipush 10 dX6_imbalance_5 (by decide) ?_
      refine a_icmp_ge 58 dX6_imbalance_7 (by decide) (fun _ => ?_) (fun z => absurd ge10_t z)
      refine a_dload_n dX6_imbalance_58 rfl ?_
      refine a_dret rfl dX6_imbalance_59 (by decide) (by decide) ?_
      exact ⟨by rw [← hq]; rfl, rfl⟩
    | succ n ih =>
      intro j a hj hq9
      refine a_iload_n dX6_imbalance_4 rfl ?_
      refine a_bipush 10 dX6_imbalance_5 (by decide) ?_
      refine a_icmp_ge 58 dX6_imbalance_7 (by decide) (fun z => absurd z (ge10_f (by omega))) (fun _ => ?_)
      refine a_aload_n dX6_imbalance_10 rfl ?_
      refine a_iload_n dX6_imbalance_11 rfl ?_
      refine a_VdR is55 k_X6_imbalance_85 (c_X6_shareOf (t := t) (b := b) (nI j) (hn j (by omega))) dX6_imbalance_12 rfl rfl rfl rfl rfl rfl (Nat.le_of_ble_eq_true rfl) ⟨Nat.le_of_ble_eq_true rfl, Nat.le_of_ble_eq_true rfl⟩ ⟨rfl, rfl⟩ ?_
      refine a_dstore dX6_imbalance_15 (by decide) rfl ?_
      refine a_dload dX6_imbalance_17 rfl ?_
      refine a_dconst0 dX6_imbalance_19 ?_
      refine a_dcmp dX6_imbalance_20 ?_
      refine a_if_le 52 dX6_imbalance_21 (by decide) (fun c21 => ?_) (fun c21 => ?_)
      · refine a_iinc (nI (j + 1)) dX6_imbalance_52 rfl (nI_1 _) (by decide) rfl ?_
        refine a_goto 4 dX6_imbalance_55 (by decide) ?_
        refine a_drop 4 ?_
        have : fIm t b j a = a := by unfold fIm; rw [if_neg (by intro z; exact absurd c21 (by rw [Int32.le_iff_toInt_le]; rw [Int32.lt_iff_toInt_lt] at z; omega))]
        exact ih (j + 1) a (by omega) (by rw [← hq9]; show _ = aLp (fIm t b) n (j + 1) (fIm t b j a); rw [this])
      · have hgt : 0 < Op.cmpValue (FP.dcmp (fSh t b.1 (nI j)) FP.dconst0) .l := by rw [Int32.lt_iff_toInt_lt]; rw [Int32.le_iff_toInt_le] at c21; omega
        refine a_aload_n dX6_imbalance_24 rfl ?_
        refine a_get fl_X6_28 dX6_imbalance_25 rfl rfl ?_
        refine a_iload_n dX6_imbalance_28 rfl ?_
        refine a_ViR [9, 10, 11, 12] k_X6_imbalance_89 (c_X3_ownedBy (ow := b.2.1) (dr := b.2.2.1) (tr := b.2.2.2.1) (ch := b.2.2.2.2.1) (fo := b.2.2.2.2.2) hb.2 (nI j)) dX6_imbalance_29 rfl rfl rfl rfl rfl rfl (Nat.le_of_ble_eq_true rfl) ⟨Nat.le_of_ble_eq_true rfl, Nat.le_of_ble_eq_true rfl⟩ ⟨rfl, rfl⟩ ?_
        refine a_i2d dX6_imbalance_32 ?_
        refine a_dload dX6_imbalance_33 rfl ?_
        refine a_ddiv dX6_imbalance_35 (hq j (by omega) hgt) ?_
        refine a_dstore dX6_imbalance_36 (by decide) rfl ?_
        refine a_dload dX6_imbalance_38 rfl ?_
        refine a_dload_n dX6_imbalance_40 rfl ?_
        refine a_dcmp dX6_imbalance_41 ?_
        refine a_if_le 50 dX6_imbalance_42 (by decide) (fun c42 => ?_) (fun c42 => ?_)
        · refine a_dload_n dX6_imbalance_50 rfl ?_
          refine a_dstore_n dX6_imbalance_51 (by decide) rfl ?_
          refine a_iinc (nI (j + 1)) dX6_imbalance_52 rfl (nI_1 _) (by decide) rfl ?_
          refine a_goto 4 dX6_imbalance_55 (by decide) ?_
          refine a_drop 4 ?_
          refine a_drop 6 ?_
          have : fIm t b j a = a := by unfold fIm; rw [if_pos hgt, if_neg (by intro z; exact absurd c42 (by rw [Int32.le_iff_toInt_le]; rw [Int32.lt_iff_toInt_lt] at z; omega))]
          exact ih (j + 1) a (by omega) (by rw [← hq9]; show _ = aLp (fIm t b) n (j + 1) (fIm t b j a); rw [this])
        · have hgt2 : 0 < Op.cmpValue (FP.dcmp (FP.ddiv (FP.i2d (sOb b.2.1 b.1 (nI j))) (fSh t b.1 (nI j))) a) .l := by rw [Int32.lt_iff_toInt_lt]; rw [Int32.le_iff_toInt_le] at c42; omega
          refine a_dload dX6_imbalance_45 rfl ?_
          refine a_goto 51 dX6_imbalance_47 (by decide) ?_
          refine a_dstore_n dX6_imbalance_51 (by decide) rfl ?_
          refine a_iinc (nI (j + 1)) dX6_imbalance_52 rfl (nI_1 _) (by decide) rfl ?_
          refine a_goto 4 dX6_imbalance_55 (by decide) ?_
          refine a_drop 4 ?_
          refine a_drop 6 ?_
          have : fIm t b j a = FP.ddiv (FP.i2d (sOb b.2.1 b.1 (nI j))) (fSh t b.1 (nI j)) := by unfold fIm; rw [if_pos hgt, if_pos hgt2]
          exact ih (j + 1) _ (by omega) (by rw [← hq9]; show _ = aLp (fIm t b) n (j + 1) (fIm t b j a); rw [this])
  exact lp 10 0 FP.dconst0 rfl hr
end PT5
end
section
/-! written by wip/whole/pp.py out of wip/whole/src/27.dinv.lean -/

/-! ===== the drawing: what holds throughout ===== -/
/-- how many places below n P takes -/
def cN (P : Nat → Bool) : Nat → Nat
  | 0 => 0
  | n + 1 => cN P n + (if P n then 1 else 0)
theorem cN_congr {P P' : Nat → Bool} : ∀ {n : Nat}, (∀ j, j < n → P j = P' j) → cN P n = cN P' n
  | 0, _ => rfl
  | n + 1, h => by
    show cN P n + _ = cN P' n + _
    rw [cN_congr (fun j hj => h j (by omega)), h n (by omega)]
theorem cN_pos {P : Nat → Bool} : ∀ {n : Nat}, 0 < cN P n → ∃ j, j < n ∧ P j = true
  | 0, h => absurd h (Nat.lt_irrefl 0)
  | n + 1, h => by
    by_cases hp : P n = true
    · exact ⟨n, by omega, hp⟩
    · have h2 : 0 < cN P n + (if P n then 1 else 0) := h
      rw [if_neg hp] at h2
      obtain ⟨j, h1, h3⟩ := cN_pos (n := n) h2
      exact ⟨j, by omega, h3⟩
theorem cN_le (P : Nat → Bool) : ∀ (n : Nat), cN P n ≤ n
  | 0 => Nat.le_refl _
  | n + 1 => by
    have := cN_le P n
    show cN P n + _ ≤ _
    split <;> omega
theorem cN_all {P : Nat → Bool} : ∀ {n : Nat}, (∀ j, j < n → P j = true) → cN P n = n
  | 0, _ => rfl
  | n + 1, h => by
    show cN P n + _ = _
    rw [cN_all (fun j hj => h j (by omega)), if_pos (h n (by omega))]
theorem cN_lt {P : Nat → Bool} : ∀ {n : Nat}, (∃ j, j < n ∧ P j = false) → cN P n < n
  | 0, ⟨j, h, _⟩ => absurd h (Nat.not_lt_zero j)
  | n + 1, ⟨j, h, hp⟩ => by
    show cN P n + _ < _
    rcases Nat.lt_or_ge j n with q | q
    · have := cN_lt (P := P) (n := n) ⟨j, q, hp⟩
      split <;> omega
    · obtain rfl : j = n := by omega
      have := cN_le P j
      rw [hp]
      show cN P j + 0 < j + 1
      omega
theorem cN_sub {P P' : Nat → Bool} {i : Nat} : ∀ {n : Nat}, i < n → P i = true → P' i = false → (∀ j, j < n → j ≠ i → P j = P' j) → cN P n = cN P' n + 1
  | 0, h, _, _, _ => absurd h (Nat.not_lt_zero i)
  | n + 1, h, h1, h2, h3 => by
    show cN P n + _ = cN P' n + _ + 1
    rcases Nat.lt_or_ge i n with q | q
    · rw [cN_sub q h1 h2 (fun j hj hn => h3 j (by omega) hn), h3 n (by omega) (by omega)]
      omega
    · obtain rfl : i = n := by omega
      rw [h1, h2, cN_congr (P := P) (P' := P') (fun j hj => h3 j (by omega) (by omega))]
      rfl
theorem aFo_skip {P : Nat → Bool} : ∀ (t k j : Nat), (∀ i, j ≤ i → i < j + t → P i = false) → aFo P (t + k) j = aFo P k (j + t)
  | 0, k, j, _ => by rw [Nat.zero_add]; rfl
  | t + 1, k, j, h => by
    rw [show t + 1 + k = (t + k) + 1 by omega]
    show (if P j then some j else aFo P (t + k) (j + 1)) = _
    rw [h j (Nat.le_refl _) (by omega)]
    show aFo P (t + k) (j + 1) = _
    rw [aFo_skip t k (j + 1) (fun i h1 h2 => h i (by omega) (by omega))]
    rw [show j + 1 + t = j + (t + 1) by omega]
theorem aFo_ex {P : Nat → Bool} {k j : Nat} (h : ∃ i, j ≤ i ∧ i < j + k ∧ P i = true) : ∃ i, aFo P k j = some i := by
  cases hf : aFo P k j with
  | some i => exact ⟨i, rfl⟩
  | none =>
    obtain ⟨i, h1, h2, h3⟩ := h
    rw [aFo_none hf i h1 h2] at h3
    cases h3
theorem aFo_min {P : Nat → Bool} : ∀ {k j i : Nat}, aFo P k j = some i → ∀ r, j ≤ r → r < i → P r = false
  | 0, j, i, h => by cases h
  | k + 1, j, i, h => by
    intro r h1 h2
    unfold aFo at h
    by_cases hp : P j = true
    · rw [if_pos hp] at h; cases h; omega
    · rw [if_neg hp] at h
      rcases Nat.lt_or_ge j r with q | q
      · exact aFo_min h r (by omega) h2
      · obtain rfl : r = j := by omega
        simpa using hp
theorem aFo_congr {P P' : Nat → Bool} : ∀ (k j : Nat), (∀ i, j ≤ i → i < j + k → P i = P' i) → aFo P k j = aFo P' k j
  | 0, _, _ => rfl
  | k + 1, j, h => by
    show (if P j then some j else aFo P k (j + 1)) = (if P' j then some j else aFo P' k (j + 1))
    rw [h j (Nat.le_refl _) (by omega), aFo_congr k (j + 1) (fun i h1 h2 => h i (by omega) (by omega))]
/-- the numbers of slots that there may be -/
def slP : List Nat := [5, 7, 11, 13, 17, 19, 23, 29, 31, 37, 41, 43, 47, 53, 59, 61]
theorem slP_b {M : Nat} (h : M ∈ slP) : 5 ≤ M ∧ M ≤ 61 := by
  have : ∀ M ∈ slP, 5 ≤ M ∧ M ≤ 61 := by decide
  exact this M h
theorem slP_all : (slP.all fun M => (List.range M).all fun s => s == 0 || (List.range M).any fun e => (s * e) % M == 1) = true := by decide +kernel
theorem slP_inv {M s : Nat} (h : M ∈ slP) (hs : s < M) (h0 : 0 < s) : ∃ e, (s * e) % M = 1 := by
  have h1 := List.all_eq_true.mp slP_all M h
  have h2 := List.all_eq_true.mp h1 s (List.mem_range.mpr hs)
  rw [Bool.or_eq_true] at h2
  rcases h2 with h2 | h2
  · have := beq_iff_eq.mp h2; omega
  · obtain ⟨e, -, he⟩ := List.any_eq_true.mp h2
    exact ⟨e, beq_iff_eq.mp he⟩
theorem pPf_sur {M n j : Nat} (h : M ∈ slP) (hj : j < M) : ∃ i, i < M ∧ pPf M n i = j := by
  have hb := slP_b h
  have hs1 : (17 * n + 3) % (M - 1) + 1 < M := by have := Nat.mod_lt (17 * n + 3) (show 0 < M - 1 by omega); omega
  obtain ⟨e, he⟩ := slP_inv h hs1 (by omega)
  have ho : (31 * n + 7) % M < M := Nat.mod_lt _ (by omega)
  unfold pPf
  generalize (17 * n + 3) % (M - 1) + 1 = s at *
  generalize (31 * n + 7) % M = o at *
  refine ⟨((j + M - o) * e) % M, Nat.mod_lt _ (by omega), ?_⟩
  have e1 : ((j + M - o) * e) % M * s % M = (j + M - o) % M := by
    rw [Nat.mod_mul_mod, Nat.mul_assoc, Nat.mul_comm e s, ← Nat.mul_mod_mod, he, Nat.mul_one]
  rw [← Nat.add_mod_mod, e1, Nat.add_mod_mod, show o + (j + M - o) = j + M by omega, Nat.add_mod_right, Nat.mod_eq_of_lt hj]
/-- free slots are counted; what was tried is taken; slots hold servers that are on -/
def dIv (M : Nat) (A : Nat → Nat) (on : Nat → Bool) (σ : dT) : Prop := σ.2.2 = cN (fun j => decide (σ.1 j = -1)) M ∧ (∀ s, s < 10 → ∃ t, t ≤ M ∧ σ.2.1 s = nI t ∧ ∀ i, i < t → ¬ σ.1 (pPf M (A s) i) = -1) ∧ ∀ j, j < M → σ.1 j = -1 ∨ ∃ s, s < 10 ∧ on s = true ∧ σ.1 j = nI s
theorem dCl_iv {M : Nat} {A : Nat → Nat} {on : Nat → Bool} {s : Nat} {σ : dT} (hM : M ∈ slP) (hs : s < 10) (hon : on s = true) (h : dIv M A on σ) (hf : 0 < σ.2.2) :
    ∃ i, i < M ∧ dFi M (A s) s σ = some i ∧ aFo (fun i => decide (σ.1 (pPf M (A s) i) = -1)) M 0 = some i ∧ dCl M (A s) s σ = (upd σ.1 (pPf M (A s) i) (nI s), upd σ.2.1 s (nI (i + 1)), σ.2.2 - 1) ∧ dIv M A on (dCl M (A s) s σ) := by
  obtain ⟨h1, h2, h3⟩ := h
  have hb := slP_b hM
  obtain ⟨t, ht, het, htk⟩ := h2 s hs
  rw [h1] at hf
  obtain ⟨j, hj, hfr⟩ := cN_pos hf
  obtain ⟨r, hr, hpr⟩ := pPf_sur (n := A s) hM hj
  have hfr' : σ.1 (pPf M (A s) r) = -1 := by rw [hpr]; exact of_decide_eq_true hfr
  have htr : t ≤ r := by
    rcases Nat.lt_or_ge r t with q | q
    · exact absurd hfr' (htk r q)
    · exact q
  have e0 : dFi M (A s) s σ = aFo (fun i => decide (σ.1 (pPf M (A s) i) = -1)) (M - t) t := by
    unfold dFi; rw [het, nI_clamp (by omega)]
  obtain ⟨i, hi⟩ := aFo_ex (P := fun i => decide (σ.1 (pPf M (A s) i) = -1)) (k := M - t) (j := t) ⟨r, htr, by omega, decide_eq_true hfr'⟩
  obtain ⟨hi1, hi2, hi3⟩ := aFo_some hi
  have hi3' : σ.1 (pPf M (A s) i) = -1 := of_decide_eq_true hi3
  have hp : pPf M (A s) i < M := pPf_lt (by omega)
  have hne : ¬ nI s = -1 := nI_m1 (by omega)
  have e2 : dCl M (A s) s σ = (upd σ.1 (pPf M (A s) i) (nI s), upd σ.2.1 s (nI (i + 1)), σ.2.2 - 1) := by
    unfold dCl; rw [e0, hi]
  refine ⟨i, by omega, by rw [e0, hi], ?_, e2, ?_⟩
  · have := aFo_skip (P := fun i => decide (σ.1 (pPf M (A s) i) = -1)) t (M - t) 0 (fun i _ h2 => decide_eq_false (htk i (by omega)))
    rw [show t + (M - t) = M by omega, Nat.zero_add] at this
    rw [this, hi]
  · rw [e2]
    refine ⟨?_, fun s' hs' => ?_, fun j' hj' => ?_⟩
    · have := cN_sub (P := fun j => decide (σ.1 j = -1)) (P' := fun j => decide (upd σ.1 (pPf M (A s) i) (nI s) j = -1)) hp hi3 (by simp [upd, hne]) (fun j _ hn => by simp [upd, hn])
      show σ.2.2 - 1 = cN (fun j => decide (upd σ.1 (pPf M (A s) i) (nI s) j = -1)) M
      omega
    · show ∃ t, t ≤ M ∧ upd σ.2.1 s (nI (i + 1)) s' = nI t ∧ ∀ i', i' < t → ¬ upd σ.1 (pPf M (A s) i) (nI s) (pPf M (A s') i') = -1
      by_cases hss : s' = s
      · subst hss
        refine ⟨i + 1, by omega, by simp [upd], fun i' hi' => ?_⟩
        unfold upd
        split
        · exact hne
        · rename_i hq
          rcases Nat.lt_or_ge i' t with q | q
          · exact htk i' q
          · rcases Nat.lt_or_ge i' i with q2 | q2
            · exact of_decide_eq_false (aFo_min hi i' q q2)
            · obtain rfl : i' = i := by omega
              exact absurd rfl hq
      · obtain ⟨t', g1, g2, g3⟩ := h2 s' hs'
        refine ⟨t', g1, by simp [upd, hss, g2], fun i' hi' => ?_⟩
        unfold upd
        split
        · exact hne
        · exact g3 i' hi'
    · show upd σ.1 (pPf M (A s) i) (nI s) j' = -1 ∨ ∃ s', s' < 10 ∧ on s' = true ∧ upd σ.1 (pPf M (A s) i) (nI s) j' = nI s'
      unfold upd
      split
      · exact Or.inr ⟨s, hs, hon, rfl⟩
      · exact h3 j' hj'
theorem dTu_iv {M : Nat} {A W : Nat → Nat} {on : Nat → Bool} {G r s : Nat} {σ : dT} (hM : M ∈ slP) (hs : s < 10) (h : dIv M A on σ) (hf : 0 < σ.2.2) : dIv M A on (dTu M A W on G r s σ) ∧ (dTu M A W on G r s σ).2.2 ≤ σ.2.2 ∧ ((on s && pTn r (W s) G) = true → (dTu M A W on G r s σ).2.2 < σ.2.2) := by
  unfold dTu
  by_cases hc : (on s && pTn r (W s) G) = true
  · rw [if_pos hc]
    have ho : on s = true := by rw [Bool.and_eq_true] at hc; exact hc.1
    obtain ⟨i, -, -, -, e, hi⟩ := dCl_iv hM hs ho h hf
    refine ⟨hi, ?_, fun _ => ?_⟩
    · rw [e]; exact Nat.sub_le _ _
    · rw [e]; show σ.2.2 - 1 < σ.2.2; omega
  · rw [if_neg hc]
    exact ⟨h, Nat.le_refl _, fun z => absurd z hc⟩
theorem dIn_iv {M : Nat} {A W : Nat → Nat} {on : Nat → Bool} {G r : Nat} (hM : M ∈ slP) : ∀ (k s : Nat) {σ : dT}, s + k = 10 → dIv M A on σ → dIv M A on (dIn M A W on G r k s σ) ∧ (dIn M A W on G r k s σ).2.2 ≤ σ.2.2
  | 0, _, _, _, h => ⟨h, Nat.le_refl _⟩
  | k + 1, s, σ, hs, h => by
    unfold dIn
    by_cases hf : 0 < σ.2.2
    · rw [if_pos hf]
      have h1 := dTu_iv (W := W) (G := G) (r := r) hM (show s < 10 by omega) h hf
      have h2 := dIn_iv hM k (s + 1) (by omega) h1.1 (W := W) (G := G) (r := r)
      exact ⟨h2.1, Nat.le_trans h2.2 h1.2.1⟩
    · rw [if_neg hf]
      exact ⟨h, Nat.le_refl _⟩
theorem dIn_dec {M : Nat} {A W : Nat → Nat} {on : Nat → Bool} {G r g : Nat} (hM : M ∈ slP) (hg : (on g && pTn r (W g) G) = true) : ∀ (k s : Nat) {σ : dT}, s + k = 10 → s ≤ g → g < 10 → dIv M A on σ → 0 < σ.2.2 → (dIn M A W on G r k s σ).2.2 < σ.2.2
  | 0, s, _, hs, h1, h2, _, _ => by omega
  | k + 1, s, σ, hs, h1, h2, h, hf => by
    unfold dIn
    rw [if_pos hf]
    have ht := dTu_iv (W := W) (G := G) (r := r) hM (show s < 10 by omega) h hf
    rcases Nat.lt_or_ge s g with q | q
    · rcases Nat.eq_zero_or_pos (dTu M A W on G r s σ).2.2 with hz | hz
      · have := (dIn_iv (W := W) (G := G) (r := r) hM k (s + 1) (by omega) ht.1).2
        omega
      · have := dIn_dec hM hg k (s + 1) (by omega) (by omega) h2 ht.1 hz
        omega
    · obtain rfl : s = g := by omega
      have := (dIn_iv (W := W) (G := G) (r := r) hM k (s + 1) (by omega) ht.1).2
      have := ht.2.2 hg
      omega
theorem pTn_self {r G : Nat} (hr : 1 ≤ r) (hG : 0 < G) : pTn r G G = true := by
  unfold pTn
  rw [Nat.mul_div_cancel _ hG, Nat.mul_div_cancel _ hG]
  simp [hG]
  omega
theorem dOu_iv {M : Nat} {A W : Nat → Nat} {on : Nat → Bool} {G g : Nat} (hM : M ∈ slP) (hg : g < 10) (hon : on g = true) (hW : W g = G) (hG : 0 < G) : ∀ (k r : Nat) {σ : dT}, 1 ≤ r → dIv M A on σ → σ.2.2 ≤ k → dIv M A on (dOu M A W on G k r σ) ∧ (dOu M A W on G k r σ).2.2 = 0
  | 0, _, σ, _, h, hk => ⟨h, Nat.le_zero.mp hk⟩
  | k + 1, r, σ, hr, h, hk => by
    unfold dOu
    by_cases hf : 0 < σ.2.2
    · rw [if_pos hf]
      have h1 := dIn_iv (W := W) (G := G) (r := r) hM 10 0 rfl h
      have h2 := dIn_dec (G := G) (r := r) (W := W) hM (by rw [hon, hW, pTn_self hr hG]; rfl) 10 0 rfl (Nat.zero_le g) hg h hf
      exact dOu_iv hM hg hon hW hG k (r + 1) (by omega) h1.1 (by omega)
    · rw [if_neg hf]
      exact ⟨h, by omega⟩
/-- the greatest weight of those that are on -/
def mxW (on : Nat → Bool) (W : Nat → Nat) : Nat := aLp (fun j c => if on j then (if c < W j then W j else c) else c) 10 0 0
theorem mxW_ex {on : Nat → Bool} {W : Nat → Nat} : ∀ (k j a : Nat), aLp (fun j c => if on j then (if c < W j then W j else c) else c) k j a = a ∨ ∃ g, j ≤ g ∧ g < j + k ∧ on g = true ∧ W g = aLp (fun j c => if on j then (if c < W j then W j else c) else c) k j a
  | 0, _, _ => Or.inl rfl
  | k + 1, j, a => by
    show aLp (fun j c => if on j then (if c < W j then W j else c) else c) k (j + 1) (if on j then (if a < W j then W j else a) else a) = a ∨ ∃ g, j ≤ g ∧ g < j + (k + 1) ∧ on g = true ∧ W g = aLp (fun j c => if on j then (if c < W j then W j else c) else c) k (j + 1) (if on j then (if a < W j then W j else a) else a)
    rcases mxW_ex k (j + 1) (if on j then (if a < W j then W j else a) else a) with h | ⟨g, h1, h2, h3, h4⟩
    · rw [h]
      by_cases ho : on j = true
      · rw [if_pos ho]
        by_cases hw : a < W j
        · rw [if_pos hw]; exact Or.inr ⟨j, Nat.le_refl _, by omega, ho, rfl⟩
        · rw [if_neg hw]; exact Or.inl rfl
      · rw [if_neg ho]; exact Or.inl rfl
    · exact Or.inr ⟨g, by omega, by omega, h3, h4⟩
theorem mxW_g {on : Nat → Bool} {W : Nat → Nat} (h : 0 < mxW on W) : ∃ g, g < 10 ∧ on g = true ∧ W g = mxW on W := by
  rcases mxW_ex (on := on) (W := W) 10 0 0 with h0 | ⟨g, h1, h2, h3, h4⟩
  · unfold mxW at h; omega
  · exact ⟨g, by omega, h3, h4⟩
theorem mxW_le {on : Nat → Bool} {W : Nat → Nat} (hW : ∀ j, j < 10 → W j ≤ 16) : mxW on W ≤ 16 := by
  rcases mxW_ex (on := on) (W := W) 10 0 0 with h0 | ⟨g, h1, h2, h3, h4⟩
  · unfold mxW; omega
  · have := hW g (by omega); unfold mxW; omega
/-- the first round's state -/
theorem d0_iv {M : Nat} {A : Nat → Nat} {on : Nat → Bool} {T : Nat → Int32} {z : Nat → Int32} (hz : ∀ s, s < 10 → z s = 0) (hT : ∀ j, j < M → T j = -1) : dIv M A on (T, z, M) :=
  ⟨(cN_all (fun j hj => decide_eq_true (hT j hj))).symm, fun s hs => ⟨0, Nat.zero_le _, hz s hs, fun i hi => absurd hi (Nat.not_lt_zero i)⟩, fun j hj => Or.inl (hT j hj)⟩
/-- alike on the slots and the servers -/
def dAg (M : Nat) (σ τ : dT) : Prop := (∀ j, j < M → σ.1 j = τ.1 j) ∧ (∀ s, s < 10 → σ.2.1 s = τ.2.1 s) ∧ σ.2.2 = τ.2.2
theorem dTu_ag {M : Nat} {A W A' W' : Nat → Nat} {on on' : Nat → Bool} {G r s : Nat} {σ τ : dT} (hM : 0 < M) (hs : s < 10) (ho : on s = on' s) (hA : on s = true → A s = A' s) (hW : on s = true → W s = W' s) (h : dAg M σ τ) : dAg M (dTu M A W on G r s σ) (dTu M A' W' on' G r s τ) := by
  unfold dTu
  by_cases hon : on s = true
  · rw [← ho, ← hW hon, ← hA hon]
    split
    · have e : dFi M (A s) s σ = dFi M (A s) s τ := by
        unfold dFi
        rw [h.2.1 s hs]
        exact aFo_congr _ _ (fun i _ _ => by rw [h.1 _ (pPf_lt hM)])
      unfold dCl
      rw [e]
      cases dFi M (A s) s τ with
      | none => exact h
      | some i =>
        refine ⟨fun j hj => ?_, fun s' hs' => ?_, ?_⟩
        · show upd σ.1 _ _ j = upd τ.1 _ _ j
          unfold upd; split
          · rfl
          · exact h.1 j hj
        · show upd σ.2.1 _ _ s' = upd τ.2.1 _ _ s'
          unfold upd; split
          · rfl
          · exact h.2.1 s' hs'
        · show σ.2.2 - 1 = τ.2.2 - 1
          rw [h.2.2]
    · exact h
  · have hf : on s = false := by simpa using hon
    have hf' : on' s = false := by rw [← ho]; exact hf
    rw [hf, hf']
    exact h
theorem dIn_ag {M : Nat} {A W A' W' : Nat → Nat} {on on' : Nat → Bool} {G r : Nat} (hM : 0 < M) (ho : ∀ s, s < 10 → on s = on' s) (hA : ∀ s, s < 10 → on s = true → A s = A' s) (hW : ∀ s, s < 10 → on s = true → W s = W' s) : ∀ (k s : Nat) {σ τ : dT}, s + k = 10 → dAg M σ τ → dAg M (dIn M A W on G r k s σ) (dIn M A' W' on' G r k s τ)
  | 0, _, _, _, _, h => h
  | k + 1, s, σ, τ, hs, h => by
    unfold dIn
    rw [h.2.2]
    split
    · exact dIn_ag hM ho hA hW k (s + 1) (by omega) (dTu_ag hM (by omega) (ho s (by omega)) (hA s (by omega)) (hW s (by omega)) h)
    · exact h
theorem dOu_ag {M : Nat} {A W A' W' : Nat → Nat} {on on' : Nat → Bool} {G : Nat} (hM : 0 < M) (ho : ∀ s, s < 10 → on s = on' s) (hA : ∀ s, s < 10 → on s = true → A s = A' s) (hW : ∀ s, s < 10 → on s = true → W s = W' s) : ∀ (k r : Nat) {σ τ : dT}, dAg M σ τ → dAg M (dOu M A W on G k r σ) (dOu M A' W' on' G k r τ)
  | 0, _, _, _, h => h
  | k + 1, r, σ, τ, h => by
    unfold dOu
    rw [h.2.2]
    split
    · exact dOu_ag hM ho hA hW k (r + 1) (dIn_ag hM ho hA hW 10 0 rfl h)
    · exact h
/-- the table that is built over T -/
def mBd (M : Nat) (A W : Nat → Nat) (on : Nat → Bool) (T : Nat → Int32) : Nat → Int32 := (dOu M A W on (mxW on W) M 1 (fFl M (fun _ => -1) T, fun _ => 0, if 0 < mxW on W then M else 0)).1
theorem mBd_ok {M : Nat} {A W : Nat → Nat} {on : Nat → Bool} {T : Nat → Int32} (hM : M ∈ slP) : ∀ j, j < M → mBd M A W on T j = -1 ∨ ∃ s, s < 10 ∧ on s = true ∧ mBd M A W on T j = nI s := by
  intro j hj
  unfold mBd
  rcases Nat.eq_zero_or_pos (mxW on W) with hz | hz
  · rw [hz, if_neg (Nat.lt_irrefl 0)]
    left
    have : ∀ (k r : Nat) (σ : dT), σ.2.2 = 0 → dOu M A W on 0 k r σ = σ := by
      intro k r σ h0
      cases k with
      | zero => rfl
      | succ k => unfold dOu; rw [h0]; rfl
    rw [this _ _ _ rfl]
    show fFl M (fun _ => -1) T j = -1
    simp [fFl, hj]
  · rw [if_pos hz]
    obtain ⟨g, h1, h2, h3⟩ := mxW_g hz
    have := dOu_iv (A := A) (G := mxW on W) hM h1 h2 h3 hz M 1 (σ := (fFl M (fun _ => -1) T, fun _ => 0, M)) (Nat.le_refl _) (d0_iv (fun _ _ => rfl) (fun j hj => by simp [fFl, hj])) (Nat.le_refl _)
    exact this.1.2.2 j hj
end
