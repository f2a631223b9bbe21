/-! written by wip/whole/pp.py out of wip/whole/src/29.mod2.lean -/
theorem dX7_builds_0 : decode cX7_builds 0 = .ok (.iconst 0, 1) := by decide +kernel
theorem dX7_builds_1 : decode cX7_builds 1 = .ok (.istore_n 1, 1) := by decide +kernel
theorem dX7_builds_2 : decode cX7_builds 2 = .ok (.iconst 0, 1) := by decide +kernel
theorem dX7_builds_3 : decode cX7_builds 3 = .ok (.istore_n 2, 1) := by decide +kernel
theorem dX7_builds_4 : decode cX7_builds 4 = .ok (.iload_n 2, 1) := by decide +kernel
theorem dX7_builds_5 : decode cX7_builds 5 = .ok (.bipush 10, 2) := by decide +kernel
theorem dX7_builds_7 : decode cX7_builds 7 = .ok (.if_icmp .ge 40, 3) := by decide +kernel
theorem dX7_builds_10 : decode cX7_builds 10 = .ok (.aload_n 0, 1) := by decide +kernel
theorem dX7_builds_11 : decode cX7_builds 11 = .ok (.getfield 13, 3) := by decide +kernel
theorem dX7_builds_14 : decode cX7_builds 14 = .ok (.iload_n 2, 1) := by decide +kernel
theorem dX7_builds_15 : decode cX7_builds 15 = .ok (.iaload, 1) := by decide +kernel
theorem dX7_builds_16 : decode cX7_builds 16 = .ok (.iconst 2, 1) := by decide +kernel
theorem dX7_builds_17 : decode cX7_builds 17 = .ok (.if_icmp .ne 22, 3) := by decide +kernel
theorem dX7_builds_20 : decode cX7_builds 20 = .ok (.aload_n 0, 1) := by decide +kernel
theorem dX7_builds_21 : decode cX7_builds 21 = .ok (.getfield 20, 3) := by decide +kernel
theorem dX7_builds_24 : decode cX7_builds 24 = .ok (.iload_n 2, 1) := by decide +kernel
theorem dX7_builds_25 : decode cX7_builds 25 = .ok (.iaload, 1) := by decide +kernel
theorem dX7_builds_26 : decode cX7_builds 26 = .ok (.iload_n 1, 1) := by decide +kernel
theorem dX7_builds_27 : decode cX7_builds 27 = .ok (.if_icmp .le 12, 3) := by decide +kernel
theorem dX7_builds_30 : decode cX7_builds 30 = .ok (.aload_n 0, 1) := by decide +kernel
theorem dX7_builds_31 : decode cX7_builds 31 = .ok (.getfield 20, 3) := by decide +kernel
theorem dX7_builds_34 : decode cX7_builds 34 = .ok (.iload_n 2, 1) := by decide +kernel
theorem dX7_builds_35 : decode cX7_builds 35 = .ok (.iaload, 1) := by decide +kernel
theorem dX7_builds_36 : decode cX7_builds 36 = .ok (.goto 4, 3) := by decide +kernel
theorem dX7_builds_39 : decode cX7_builds 39 = .ok (.iload_n 1, 1) := by decide +kernel
theorem dX7_builds_40 : decode cX7_builds 40 = .ok (.istore_n 1, 1) := by decide +kernel
theorem dX7_builds_41 : decode cX7_builds 41 = .ok (.iinc 2 1, 3) := by decide +kernel
theorem dX7_builds_44 : decode cX7_builds 44 = .ok (.goto (-40), 3) := by decide +kernel
theorem dX7_builds_47 : decode cX7_builds 47 = .ok (.iconst 0, 1) := by decide +kernel
theorem dX7_builds_48 : decode cX7_builds 48 = .ok (.istore_n 2, 1) := by decide +kernel
theorem dX7_builds_49 : decode cX7_builds 49 = .ok (.iload_n 2, 1) := by decide +kernel
theorem dX7_builds_50 : decode cX7_builds 50 = .ok (.aload_n 0, 1) := by decide +kernel
theorem dX7_builds_51 : decode cX7_builds 51 = .ok (.getfield 7, 3) := by decide +kernel
theorem dX7_builds_54 : decode cX7_builds 54 = .ok (.if_icmp .ge 16, 3) := by decide +kernel
theorem dX7_builds_57 : decode cX7_builds 57 = .ok (.aload_n 0, 1) := by decide +kernel
theorem dX7_builds_58 : decode cX7_builds 58 = .ok (.getfield 27, 3) := by decide +kernel
theorem dX7_builds_61 : decode cX7_builds 61 = .ok (.iload_n 2, 1) := by decide +kernel
theorem dX7_builds_62 : decode cX7_builds 62 = .ok (.iconst (-1), 1) := by decide +kernel
theorem dX7_builds_63 : decode cX7_builds 63 = .ok (.iastore, 1) := by decide +kernel
theorem dX7_builds_64 : decode cX7_builds 64 = .ok (.iinc 2 1, 3) := by decide +kernel
theorem dX7_builds_67 : decode cX7_builds 67 = .ok (.goto (-18), 3) := by decide +kernel
theorem dX7_builds_70 : decode cX7_builds 70 = .ok (.iload_n 1, 1) := by decide +kernel
theorem dX7_builds_71 : decode cX7_builds 71 = .ok (.ifCond .ne 7, 3) := by decide +kernel
theorem dX7_builds_74 : decode cX7_builds 74 = .ok (.iconst 0, 1) := by decide +kernel
theorem dX7_builds_75 : decode cX7_builds 75 = .ok (.goto 7, 3) := by decide +kernel
theorem dX7_builds_78 : decode cX7_builds 78 = .ok (.aload_n 0, 1) := by decide +kernel
theorem dX7_builds_79 : decode cX7_builds 79 = .ok (.getfield 7, 3) := by decide +kernel
theorem dX7_builds_82 : decode cX7_builds 82 = .ok (.istore_n 2, 1) := by decide +kernel
theorem dX7_builds_83 : decode cX7_builds 83 = .ok (.iconst 1, 1) := by decide +kernel
theorem dX7_builds_84 : decode cX7_builds 84 = .ok (.istore_n 3, 1) := by decide +kernel
theorem dX7_builds_85 : decode cX7_builds 85 = .ok (.iload_n 2, 1) := by decide +kernel
theorem dX7_builds_86 : decode cX7_builds 86 = .ok (.ifCond .le 76, 3) := by decide +kernel
theorem dX7_builds_89 : decode cX7_builds 89 = .ok (.iconst 0, 1) := by decide +kernel
theorem dX7_builds_90 : decode cX7_builds 90 = .ok (.istore 4, 2) := by decide +kernel
theorem dX7_builds_92 : decode cX7_builds 92 = .ok (.iload 4, 2) := by decide +kernel
theorem dX7_builds_94 : decode cX7_builds 94 = .ok (.bipush 10, 2) := by decide +kernel
theorem dX7_builds_96 : decode cX7_builds 96 = .ok (.if_icmp .ge 60, 3) := by decide +kernel
theorem dX7_builds_99 : decode cX7_builds 99 = .ok (.iload_n 2, 1) := by decide +kernel
theorem dX7_builds_100 : decode cX7_builds 100 = .ok (.ifCond .le 56, 3) := by decide +kernel
theorem dX7_builds_103 : decode cX7_builds 103 = .ok (.aload_n 0, 1) := by decide +kernel
theorem dX7_builds_104 : decode cX7_builds 104 = .ok (.getfield 13, 3) := by decide +kernel
theorem dX7_builds_107 : decode cX7_builds 107 = .ok (.iload 4, 2) := by decide +kernel
theorem dX7_builds_109 : decode cX7_builds 109 = .ok (.iaload, 1) := by decide +kernel
theorem dX7_builds_110 : decode cX7_builds 110 = .ok (.iconst 2, 1) := by decide +kernel
theorem dX7_builds_111 : decode cX7_builds 111 = .ok (.if_icmp .ne 39, 3) := by decide +kernel
theorem dX7_builds_114 : decode cX7_builds 114 = .ok (.iload_n 3, 1) := by decide +kernel
theorem dX7_builds_115 : decode cX7_builds 115 = .ok (.aload_n 0, 1) := by decide +kernel
theorem dX7_builds_116 : decode cX7_builds 116 = .ok (.getfield 20, 3) := by decide +kernel
theorem dX7_builds_119 : decode cX7_builds 119 = .ok (.iload 4, 2) := by decide +kernel
theorem dX7_builds_121 : decode cX7_builds 121 = .ok (.iaload, 1) := by decide +kernel
theorem dX7_builds_122 : decode cX7_builds 122 = .ok (.imul, 1) := by decide +kernel
theorem dX7_builds_123 : decode cX7_builds 123 = .ok (.iload_n 1, 1) := by decide +kernel
theorem dX7_builds_124 : decode cX7_builds 124 = .ok (.idiv, 1) := by decide +kernel
theorem dX7_builds_125 : decode cX7_builds 125 = .ok (.iload_n 3, 1) := by decide +kernel
theorem dX7_builds_126 : decode cX7_builds 126 = .ok (.iconst 1, 1) := by decide +kernel
theorem dX7_builds_127 : decode cX7_builds 127 = .ok (.isub, 1) := by decide +kernel
theorem dX7_builds_128 : decode cX7_builds 128 = .ok (.aload_n 0, 1) := by decide +kernel
theorem dX7_builds_129 : decode cX7_builds 129 = .ok (.getfield 20, 3) := by decide +kernel
theorem dX7_builds_132 : decode cX7_builds 132 = .ok (.iload 4, 2) := by decide +kernel
theorem dX7_builds_134 : decode cX7_builds 134 = .ok (.iaload, 1) := by decide +kernel
theorem dX7_builds_135 : decode cX7_builds 135 = .ok (.imul, 1) := by decide +kernel
theorem dX7_builds_136 : decode cX7_builds 136 = .ok (.iload_n 1, 1) := by decide +kernel
theorem dX7_builds_137 : decode cX7_builds 137 = .ok (.idiv, 1) := by decide +kernel
theorem dX7_builds_138 : decode cX7_builds 138 = .ok (.if_icmp .le 12, 3) := by decide +kernel
theorem dX7_builds_141 : decode cX7_builds 141 = .ok (.aload_n 0, 1) := by decide +kernel
theorem dX7_builds_142 : decode cX7_builds 142 = .ok (.iload 4, 2) := by decide +kernel
theorem dX7_builds_144 : decode cX7_builds 144 = .ok (.invokevirtual 103, 3) := by decide +kernel
theorem dX7_builds_147 : decode cX7_builds 147 = .ok (.iinc 2 (-1), 3) := by decide +kernel
theorem dX7_builds_150 : decode cX7_builds 150 = .ok (.iinc 4 1, 3) := by decide +kernel
theorem dX7_builds_153 : decode cX7_builds 153 = .ok (.goto (-61), 3) := by decide +kernel
theorem dX7_builds_156 : decode cX7_builds 156 = .ok (.iinc 3 1, 3) := by decide +kernel
theorem dX7_builds_159 : decode cX7_builds 159 = .ok (.goto (-74), 3) := by decide +kernel
theorem dX7_builds_162 : decode cX7_builds 162 = .ok (.return_, 1) := by decide +kernel
theorem dX7_remembers_0 : decode cX7_remembers 0 = .ok (.iconst 0, 1) := by decide +kernel
theorem dX7_remembers_1 : decode cX7_remembers 1 = .ok (.istore_n 1, 1) := by decide +kernel
theorem dX7_remembers_2 : decode cX7_remembers 2 = .ok (.iload_n 1, 1) := by decide +kernel
theorem dX7_remembers_3 : decode cX7_remembers 3 = .ok (.aload_n 0, 1) := by decide +kernel
theorem dX7_remembers_4 : decode cX7_remembers 4 = .ok (.getfield 7, 3) := by decide +kernel
theorem dX7_remembers_7 : decode cX7_remembers 7 = .ok (.if_icmp .ge 21, 3) := by decide +kernel
theorem dX7_remembers_10 : decode cX7_remembers 10 = .ok (.aload_n 0, 1) := by decide +kernel
theorem dX7_remembers_11 : decode cX7_remembers 11 = .ok (.getfield 30, 3) := by decide +kernel
theorem dX7_remembers_14 : decode cX7_remembers 14 = .ok (.iload_n 1, 1) := by decide +kernel
theorem dX7_remembers_15 : decode cX7_remembers 15 = .ok (.aload_n 0, 1) := by decide +kernel
theorem dX7_remembers_16 : decode cX7_remembers 16 = .ok (.getfield 27, 3) := by decide +kernel
theorem dX7_remembers_19 : decode cX7_remembers 19 = .ok (.iload_n 1, 1) := by decide +kernel
theorem dX7_remembers_20 : decode cX7_remembers 20 = .ok (.iaload, 1) := by decide +kernel
theorem dX7_remembers_21 : decode cX7_remembers 21 = .ok (.iastore, 1) := by decide +kernel
theorem dX7_remembers_22 : decode cX7_remembers 22 = .ok (.iinc 1 1, 3) := by decide +kernel
theorem dX7_remembers_25 : decode cX7_remembers 25 = .ok (.goto (-23), 3) := by decide +kernel
theorem dX7_remembers_28 : decode cX7_remembers 28 = .ok (.return_, 1) := by decide +kernel
theorem dX7_differing_0 : decode cX7_differing 0 = .ok (.iconst 0, 1) := by decide +kernel
theorem dX7_differing_1 : decode cX7_differing 1 = .ok (.istore_n 1, 1) := by decide +kernel
theorem dX7_differing_2 : decode cX7_differing 2 = .ok (.iconst 0, 1) := by decide +kernel
theorem dX7_differing_3 : decode cX7_differing 3 = .ok (.istore_n 2, 1) := by decide +kernel
theorem dX7_differing_4 : decode cX7_differing 4 = .ok (.iload_n 2, 1) := by decide +kernel
theorem dX7_differing_5 : decode cX7_differing 5 = .ok (.aload_n 0, 1) := by decide +kernel
theorem dX7_differing_6 : decode cX7_differing 6 = .ok (.getfield 7, 3) := by decide +kernel
theorem dX7_differing_9 : decode cX7_differing 9 = .ok (.if_icmp .ge 32, 3) := by decide +kernel
theorem dX7_differing_12 : decode cX7_differing 12 = .ok (.iload_n 1, 1) := by decide +kernel
theorem dX7_differing_13 : decode cX7_differing 13 = .ok (.aload_n 0, 1) := by decide +kernel
theorem dX7_differing_14 : decode cX7_differing 14 = .ok (.getfield 27, 3) := by decide +kernel
theorem dX7_differing_17 : decode cX7_differing 17 = .ok (.iload_n 2, 1) := by decide +kernel
theorem dX7_differing_18 : decode cX7_differing 18 = .ok (.iaload, 1) := by decide +kernel
theorem dX7_differing_19 : decode cX7_differing 19 = .ok (.aload_n 0, 1) := by decide +kernel
theorem dX7_differing_20 : decode cX7_differing 20 = .ok (.getfield 30, 3) := by decide +kernel
theorem dX7_differing_23 : decode cX7_differing 23 = .ok (.iload_n 2, 1) := by decide +kernel
theorem dX7_differing_24 : decode cX7_differing 24 = .ok (.iaload, 1) := by decide +kernel
theorem dX7_differing_25 : decode cX7_differing 25 = .ok (.if_icmp .eq 7, 3) := by decide +kernel
theorem dX7_differing_28 : decode cX7_differing 28 = .ok (.iconst 1, 1) := by decide +kernel
theorem dX7_differing_29 : decode cX7_differing 29 = .ok (.goto 4, 3) := by decide +kernel
theorem dX7_differing_32 : decode cX7_differing 32 = .ok (.iconst 0, 1) := by decide +kernel
theorem dX7_differing_33 : decode cX7_differing 33 = .ok (.iadd, 1) := by decide +kernel
theorem dX7_differing_34 : decode cX7_differing 34 = .ok (.istore_n 1, 1) := by decide +kernel
theorem dX7_differing_35 : decode cX7_differing 35 = .ok (.iinc 2 1, 3) := by decide +kernel
theorem dX7_differing_38 : decode cX7_differing 38 = .ok (.goto (-34), 3) := by decide +kernel
theorem dX7_differing_41 : decode cX7_differing 41 = .ok (.iload_n 1, 1) := by decide +kernel
theorem dX7_differing_42 : decode cX7_differing 42 = .ok (.ireturn, 1) := by decide +kernel
theorem dX7_comesAnew_0 : decode cX7_comesAnew 0 = .ok (.aload_n 0, 1) := by decide +kernel
theorem dX7_comesAnew_1 : decode cX7_comesAnew 1 = .ok (.invokevirtual 106, 3) := by decide +kernel
theorem dX7_comesAnew_4 : decode cX7_comesAnew 4 = .ok (.aload_n 0, 1) := by decide +kernel
theorem dX7_comesAnew_5 : decode cX7_comesAnew 5 = .ok (.invokevirtual 109, 3) := by decide +kernel
theorem dX7_comesAnew_8 : decode cX7_comesAnew 8 = .ok (.aload_n 0, 1) := by decide +kernel
theorem dX7_comesAnew_9 : decode cX7_comesAnew 9 = .ok (.aload_n 0, 1) := by decide +kernel
theorem dX7_comesAnew_10 : decode cX7_comesAnew 10 = .ok (.invokevirtual 112, 3) := by decide +kernel
theorem dX7_comesAnew_13 : decode cX7_comesAnew 13 = .ok (.putfield 76, 3) := by decide +kernel
theorem dX7_comesAnew_16 : decode cX7_comesAnew 16 = .ok (.aload_n 0, 1) := by decide +kernel
theorem dX7_comesAnew_17 : decode cX7_comesAnew 17 = .ok (.iconst 0, 1) := by decide +kernel
theorem dX7_comesAnew_18 : decode cX7_comesAnew 18 = .ok (.putfield 79, 3) := by decide +kernel
theorem dX7_comesAnew_21 : decode cX7_comesAnew 21 = .ok (.iconst 0, 1) := by decide +kernel
theorem dX7_comesAnew_22 : decode cX7_comesAnew 22 = .ok (.istore_n 1, 1) := by decide +kernel
theorem dX7_comesAnew_23 : decode cX7_comesAnew 23 = .ok (.iload_n 1, 1) := by decide +kernel
theorem dX7_comesAnew_24 : decode cX7_comesAnew 24 = .ok (.aload_n 0, 1) := by decide +kernel
theorem dX7_comesAnew_25 : decode cX7_comesAnew 25 = .ok (.getfield 7, 3) := by decide +kernel
theorem dX7_comesAnew_28 : decode cX7_comesAnew 28 = .ok (.if_icmp .ge 48, 3) := by decide +kernel
theorem dX7_comesAnew_31 : decode cX7_comesAnew 31 = .ok (.aload_n 0, 1) := by decide +kernel
theorem dX7_comesAnew_32 : decode cX7_comesAnew 32 = .ok (.dup, 1) := by decide +kernel
theorem dX7_comesAnew_33 : decode cX7_comesAnew 33 = .ok (.getfield 79, 3) := by decide +kernel
theorem dX7_comesAnew_36 : decode cX7_comesAnew 36 = .ok (.aload_n 0, 1) := by decide +kernel
theorem dX7_comesAnew_37 : decode cX7_comesAnew 37 = .ok (.getfield 30, 3) := by decide +kernel
theorem dX7_comesAnew_40 : decode cX7_comesAnew 40 = .ok (.iload_n 1, 1) := by decide +kernel
theorem dX7_comesAnew_41 : decode cX7_comesAnew 41 = .ok (.iaload, 1) := by decide +kernel
theorem dX7_comesAnew_42 : decode cX7_comesAnew 42 = .ok (.iconst (-1), 1) := by decide +kernel
theorem dX7_comesAnew_43 : decode cX7_comesAnew 43 = .ok (.if_icmp .eq 18, 3) := by decide +kernel
theorem dX7_comesAnew_46 : decode cX7_comesAnew 46 = .ok (.aload_n 0, 1) := by decide +kernel
theorem dX7_comesAnew_47 : decode cX7_comesAnew 47 = .ok (.getfield 13, 3) := by decide +kernel
theorem dX7_comesAnew_50 : decode cX7_comesAnew 50 = .ok (.aload_n 0, 1) := by decide +kernel
theorem dX7_comesAnew_51 : decode cX7_comesAnew 51 = .ok (.getfield 30, 3) := by decide +kernel
theorem dX7_comesAnew_54 : decode cX7_comesAnew 54 = .ok (.iload_n 1, 1) := by decide +kernel
theorem dX7_comesAnew_55 : decode cX7_comesAnew 55 = .ok (.iaload, 1) := by decide +kernel
theorem dX7_comesAnew_56 : decode cX7_comesAnew 56 = .ok (.iaload, 1) := by decide +kernel
theorem dX7_comesAnew_57 : decode cX7_comesAnew 57 = .ok (.iconst 2, 1) := by decide +kernel
theorem dX7_comesAnew_58 : decode cX7_comesAnew 58 = .ok (.if_icmp .eq 7, 3) := by decide +kernel
theorem dX7_comesAnew_61 : decode cX7_comesAnew 61 = .ok (.iconst 1, 1) := by decide +kernel
theorem dX7_comesAnew_62 : decode cX7_comesAnew 62 = .ok (.goto 4, 3) := by decide +kernel
theorem dX7_comesAnew_65 : decode cX7_comesAnew 65 = .ok (.iconst 0, 1) := by decide +kernel
theorem dX7_comesAnew_66 : decode cX7_comesAnew 66 = .ok (.iadd, 1) := by decide +kernel
theorem dX7_comesAnew_67 : decode cX7_comesAnew 67 = .ok (.putfield 79, 3) := by decide +kernel
theorem dX7_comesAnew_70 : decode cX7_comesAnew 70 = .ok (.iinc 1 1, 3) := by decide +kernel
theorem dX7_comesAnew_73 : decode cX7_comesAnew 73 = .ok (.goto (-50), 3) := by decide +kernel
theorem dX7_comesAnew_76 : decode cX7_comesAnew 76 = .ok (.return_, 1) := by decide +kernel
theorem k_X7_builds_103 : aKV mX7_builds mX7_takes 103 1 7 := ⟨cb_X7_takes, rfl, ml_X7_103, iv_X7_takes, sl_X7_takes, ⟨_, _, rfl⟩, ⟨Nat.le_of_ble_eq_true rfl, Nat.le_of_ble_eq_true rfl⟩⟩
theorem k_X7_comesAnew_106 : aKV mX7_comesAnew mX7_remembers 106 0 7 := ⟨cb_X7_remembers, rfl, ml_X7_106, iv_X7_remembers, sl_X7_remembers, ⟨_, _, rfl⟩, ⟨Nat.le_of_ble_eq_true rfl, Nat.le_of_ble_eq_true rfl⟩⟩
theorem k_X7_comesAnew_109 : aKV mX7_comesAnew mX7_builds 109 0 7 := ⟨cb_X7_builds, rfl, ml_X7_109, iv_X7_builds, sl_X7_builds, ⟨_, _, rfl⟩, ⟨Nat.le_of_ble_eq_true rfl, Nat.le_of_ble_eq_true rfl⟩⟩
theorem k_X7_comesAnew_112 : aKV mX7_comesAnew mX7_differing 112 0 7 := ⟨cb_X7_differing, rfl, ml_X7_112, iv_X7_differing, sl_X7_differing, ⟨_, _, rfl⟩, ⟨Nat.le_of_ble_eq_true rfl, Nat.le_of_ble_eq_true rfl⟩⟩
/-! ===== PreferenceTableModel: building ===== -/
abbrev mOn (v : sT) (s : Nat) : Bool := decide (v.1 s = 2)
section MO2
variable {l : Launch} {X : aX} {f : Int32} {v : sT} {u : uT} {k : kT} {q : qT}
theorem c_X7_builds (hM : u.1 ∈ slP) (A W : Nat → Nat) (hN : ∀ s, s < 10 → v.1 s = 2 → v.2.1 s = nI (A s)) (hA : ∀ s, s < 10 → A s ≤ 9999) (hWt : ∀ s, s < 10 → v.2.2.1 s = nI (W s)) (hW : ∀ s, s < 10 → W s ≤ 16) : aWr l X mX7_builds is19 [.ref 0] (aMo f v u k q) none (aMo f v (u.1, mBd u.1 A W (mOn v) u.2.1, u.2.2) k q) := by
  refine aMt.of (by decide) rfl (Nat.le_of_ble_eq_true rfl) ?_
  obtain ⟨hM5, hM61⟩ := slP_b hM
  have hG16 : mxW (mOn v) W ≤ 16 := mxW_le hW
  generalize hR : mBd u.1 A W (mOn v) u.2.1 = R
  unfold mBd at hR
  have hg : 0 < mxW (mOn v) W → ∃ g, g < 10 ∧ mOn v g = true ∧ W g = mxW (mOn v) W := mxW_g
  generalize hGe : mxW (mOn v) W = G at hR hG16 hg
  refine a_iconst 0 dX7_builds_0 (by decide) ?_
  refine a_istore_n dX7_builds_1 (by decide) rfl ?_
  refine a_iconst 0 dX7_builds_2 (by decide) ?_
  refine a_istore_n dX7_builds_3 (by decide) rfl ?_
  have outer : 0 < G → ∀ (n rd : Nat) (σ : dT), σ.2.2 ≤ n → 1 ≤ rd → rd + n ≤ u.1 + 1 → dIv u.1 A (mOn v) σ → (dOu u.1 A W (mOn v) G n rd σ).1 = R → aJ l X mX7_builds (aEd X mX7_builds is19 (fun o h' => o = .inl none ∧ h' = aMo f v (u.1, R, u.2.2) k q)) 0 0 85 [.ref 0, .int (nI G), .int (nI σ.2.2), .int (nI rd), .null] [] (aMo f v (u.1, σ.1, u.2.2) k q) := by
    intro hG0
    obtain ⟨g, hg1, hg2, hg3⟩ := hg hG0
    have hne : ¬ nI G = 0 := nI_ne0 hG0 (by omega)
    have stop : ∀ (rd : Nat) (σ : dT), σ.2.2 = 0 → σ.1 = R → aJ l X mX7_builds (aEd X mX7_builds is19 (fun o h' => o = .inl none ∧ h' = aMo f v (u.1, R, u.2.2) k q)) 0 0 85 [.ref 0, .int (nI G), .int (nI σ.2.2), .int (nI rd), .null] [] (aMo f v (u.1, σ.1, u.2.2) k q) := by
      intro rd σ h0 hr
      rw [h0]
      refine a_iload_n dX7_builds_85 rfl ?_
      refine a_if_le 162 dX7_builds_86 (by decide) (fun _ => ?_) (fun z => absurd (by decide) z)
      refine a_vret rfl dX7_builds_162 (by decide) (by decide) ?_
      exact ⟨rfl, by rw [← hr]⟩
    intro n
    induction n with
    | zero =>
      intro rd σ hn _ _ _ hr
      exact stop rd σ (by omega) hr
    | succ n ih =>
      intro rd σ hn hr1 hrM hiv hr
      have hf61 : σ.2.2 ≤ 61 := by rw [hiv.1]; exact Nat.le_trans (cN_le _ _) hM61
      rcases Nat.eq_zero_or_pos σ.2.2 with hf | hf
      · exact stop rd σ hf (by rw [← hr]; unfold dOu; rw [hf]; rfl)
      · refine a_iload_n dX7_builds_85 rfl ?_
        refine a_if_le 162 dX7_builds_86 (by decide) (fun z => absurd z (nI_nle hf (by omega))) (fun _ => ?_)
        refine a_iconst 0 dX7_builds_89 (by decide) ?_
        refine a_istore dX7_builds_90 (by decide) rfl ?_
        have hnxt : ∀ σ' : dT, σ'.2.2 ≤ n → dIv u.1 A (mOn v) σ' → (dOu u.1 A W (mOn v) G n (rd + 1) σ').1 = R → aJ l X mX7_builds (aEd X mX7_builds is19 (fun o h' => o = .inl none ∧ h' = aMo f v (u.1, R, u.2.2) k q)) 0 0 156 [.ref 0, .int (nI G), .int (nI σ'.2.2), .int (nI rd), .null] [] (aMo f v (u.1, σ'.1, u.2.2) k q) := by
          intro σ' h1 h2 h3
          refine a_iinc (nI (rd + 1)) dX7_builds_156 rfl (nI_1 _) (by decide) rfl ?_
          refine a_goto 85 dX7_builds_159 (by decide) ?_
          exact ih (rd + 1) σ' h1 (by omega) (by omega) h2 h3
        have hdec := dIn_dec (G := G) (r := rd) (W := W) hM (by rw [hg2, hg3, pTn_self hr1 hG0]; rfl) 10 0 rfl (Nat.zero_le g) hg1 hiv hf
        have inner : ∀ (m s : Nat) (σ : dT), s + m = 10 → dIv u.1 A (mOn v) σ → (dIn u.1 A W (mOn v) G rd m s σ).2.2 ≤ n → (dOu u.1 A W (mOn v) G n (rd + 1) (dIn u.1 A W (mOn v) G rd m s σ)).1 = R → aJ l X mX7_builds (aEd X mX7_builds is19 (fun o h' => o = .inl none ∧ h' = aMo f v (u.1, R, u.2.2) k q)) 0 0 92 [.ref 0, .int (nI G), .int (nI σ.2.2), .int (nI rd), .int (nI s)] [] (aMo f v (u.1, σ.1, u.2.2) k q) := by
          intro m
          induction m with
          | zero =>
            intro s σ hs hiv hle hr
            obtain rfl : s = 10 := by omega
            refine a_iload dX7_builds_92 rfl ?_
            refine a_bipush 10 dX7_builds_94 (by decide) ?_
            refine a_icmp_ge 156 dX7_builds_96 (by decide) (fun _ => ?_) (fun z => absurd ge10_t z)
            refine a_drop 4 ?_
            exact hnxt σ hle hiv hr
          | succ m ihm =>
            intro s σ hs hiv hle hr
            have hi : vp_in (nI s) 10 := in10 (by omega)
            have hf61 : σ.2.2 ≤ 61 := by rw [hiv.1]; exact Nat.le_trans (cN_le _ _) hM61
            refine a_iload dX7_builds_92 rfl ?_
            refine a_bipush 10 dX7_builds_94 (by decide) ?_
            refine a_icmp_ge 156 dX7_builds_96 (by decide) (fun z => absurd z (ge10_f (by omega))) (fun _ => ?_)
            rcases Nat.eq_zero_or_pos σ.2.2 with hf | hf
            · have e : dIn u.1 A W (mOn v) G rd (m + 1) s σ = σ := by unfold dIn; rw [hf]; rfl
              rw [e] at hle hr
              have := hnxt σ hle hiv hr
              rw [hf] at this ⊢
              refine a_iload_n dX7_builds_99 rfl ?_
              refine a_if_le 156 dX7_builds_100 (by decide) (fun _ => ?_) (fun z => absurd (by decide) z)
              refine a_drop 4 ?_
              exact this
            · have e : dIn u.1 A W (mOn v) G rd (m + 1) s σ = dIn u.1 A W (mOn v) G rd m (s + 1) (dTu u.1 A W (mOn v) G rd s σ) := by
                show (if 0 < σ.2.2 then _ else _) = _
                rw [if_pos hf]
              rw [e] at hle hr
              have b1 : rd * W s ≤ 61 * 16 := Nat.mul_le_mul (by omega) (hW s (by omega))
              have b2 : (rd - 1) * W s ≤ 61 * 16 := Nat.mul_le_mul (by omega) (hW s (by omega))
              have skip : dTu u.1 A W (mOn v) G rd s σ = σ → aJ l X mX7_builds (aEd X mX7_builds is19 (fun o h' => o = .inl none ∧ h' = aMo f v (u.1, R, u.2.2) k q)) 0 0 150 [.ref 0, .int (nI G), .int (nI σ.2.2), .int (nI rd), .int (nI s)] [] (aMo f v (u.1, σ.1, u.2.2) k q) := by
                intro hsk
                rw [hsk] at hle hr
                refine a_iinc (nI (s + 1)) dX7_builds_150 rfl (nI_1 _) (by decide) rfl ?_
                refine a_goto 92 dX7_builds_153 (by decide) ?_
                exact ihm (s + 1) σ (by omega) hiv hle hr
              refine a_iload_n dX7_builds_99 rfl ?_
              refine a_if_le 156 dX7_builds_100 (by decide) (fun z => absurd z (nI_nle hf (by omega))) (fun _ => ?_)
              refine a_aload_n dX7_builds_103 rfl ?_
              refine a_get fl_X7_13 dX7_builds_104 rfl rfl ?_
              refine a_iload dX7_builds_107 rfl ?_
              refine a_iald dX7_builds_109 rfl (by assumption) ?_
              refine a_iconst 2 dX7_builds_110 (by decide) ?_
              refine a_icmp_ne 150 dX7_builds_111 (by decide) (fun c111 => ?_) (fun c111 => ?_)
              · rw [cl10 (by omega)] at c111
                exact skip (by simp [dTu, c111])
              · rw [cl10 (by omega)] at c111
                have hon : mOn v s = true := decide_eq_true c111
                refine a_iload_n dX7_builds_114 rfl ?_
                refine a_aload_n dX7_builds_115 rfl ?_
                refine a_get fl_X7_20 dX7_builds_116 rfl rfl ?_
                refine a_iload dX7_builds_119 rfl ?_
                refine a_iald dX7_builds_121 rfl (by assumption) ?_
                rw [cl10 (by omega), hWt s (by omega)]
                refine a_imul dX7_builds_122 ?_
                refine a_iload_n dX7_builds_123 rfl ?_
                refine a_idiv dX7_builds_124 hne ?_
                refine a_iload_n dX7_builds_125 rfl ?_
                refine a_iconst 1 dX7_builds_126 (by decide) ?_
                refine a_isub dX7_builds_127 ?_
                refine a_aload_n dX7_builds_128 rfl ?_
                refine a_get fl_X7_20 dX7_builds_129 rfl rfl ?_
                refine a_iload dX7_builds_132 rfl ?_
                refine a_iald dX7_builds_134 rfl (by assumption) ?_
                rw [cl10 (by omega), hWt s (by omega)]
                refine a_imul dX7_builds_135 ?_
                refine a_iload_n dX7_builds_136 rfl ?_
                refine a_idiv dX7_builds_137 hne ?_
                have d1 : nI rd * nI (W s) / nI G = nI (rd * W s / G) := by rw [pk_mul]; exact pk_div (by omega) hG0 (by omega)
                have d2 : (nI rd - 1) * nI (W s) / nI G = nI ((rd - 1) * W s / G) := by
                  rw [show (nI rd - 1 : Int32) = nI (rd - 1) from by obtain ⟨z, rfl⟩ : ∃ z, rd = z + 1 := ⟨rd - 1, by omega⟩; exact nI_pred z, pk_mul]
                  exact pk_div (by omega) hG0 (by omega)
                have l1 : rd * W s / G ≤ rd * W s := Nat.div_le_self _ _
                have l2 : (rd - 1) * W s / G ≤ (rd - 1) * W s := Nat.div_le_self _ _
                rw [d1, d2]
                refine a_icmp_le 150 dX7_builds_138 (by decide) (fun c138 => ?_) (fun c138 => ?_)
                · rw [nI_leI (by omega) (by omega)] at c138
                  exact skip (by simp [dTu, pTn, Nat.not_lt.mpr c138])
                · rw [nI_leI (by omega) (by omega)] at c138
                  have htn : pTn rd (W s) G = true := by simp [pTn, hG0, Nat.not_le.mp c138]
                  have htu : dTu u.1 A W (mOn v) G rd s σ = dCl u.1 (A s) s σ := by unfold dTu; rw [hon, htn]; rfl
                  obtain ⟨i, hi1, hi2, hi3, hi4, hi5⟩ := dCl_iv hM (show s < 10 by omega) hon hiv hf
                  rw [htu] at hle hr
                  obtain ⟨z, hz⟩ : ∃ z, σ.2.2 = z + 1 := ⟨σ.2.2 - 1, by omega⟩
                  have hzf : (dCl u.1 (A s) s σ).2.2 = z := by rw [hi4]; show σ.2.2 - 1 = z; omega
                  have htb : (dCl u.1 (A s) s σ).1 = upd σ.1 (pPf u.1 (A s) i) (nI s) := by rw [hi4]
                  rw [hz]
                  refine a_aload_n dX7_builds_141 rfl ?_
                  refine a_iload dX7_builds_142 rfl ?_
                  refine a_VvW is19 (aMo f v (u.1, upd σ.1 (pPf u.1 (A s) i) (nI s), u.2.2) k q) k_X7_builds_103 (c_X7_takes (f := f) (v := v) (u := (u.1, σ.1, u.2.2)) (k := k) (q := q) (by show 2 ≤ u.1; omega) hM61 s (A s) i (by omega) (hN s (by omega) c111) (hA s (by omega)) hi3) dX7_builds_144 rfl rfl rfl rfl rfl rfl (Nat.le_of_ble_eq_true rfl) ⟨Nat.le_of_ble_eq_true rfl, Nat.le_of_ble_eq_true rfl⟩ ⟨rfl, rfl⟩ (Nat.le_of_ble_eq_true rfl) rfl ?_
                  refine a_iinc (nI z) dX7_builds_147 rfl (pk_m1 _) (by decide) rfl ?_
                  refine a_iinc (nI (s + 1)) dX7_builds_150 rfl (nI_1 _) (by decide) rfl ?_
                  refine a_goto 92 dX7_builds_153 (by decide) ?_
                  have := ihm (s + 1) (dCl u.1 (A s) s σ) (by omega) hi5 hle hr
                  rw [hzf, htb] at this
                  exact this
        refine inner 10 0 σ rfl hiv (by omega) ?_
        rw [← hr]
        show _ = (if 0 < σ.2.2 then _ else _ : dT).1
        rw [if_pos hf]
  have fill : ∀ (n j : Nat), j + n = u.1 → aJ l X mX7_builds (aEd X mX7_builds is19 (fun o h' => o = .inl none ∧ h' = aMo f v (u.1, R, u.2.2) k q)) 0 0 49 [.ref 0, .int (nI G), .int (nI j), .null, .null] [] (aMo f v (u.1, fFl j (fun _ => -1) u.2.1, u.2.2) k q) := by
    intro n
    induction n with
    | zero =>
      intro j hj
      obtain rfl : j = u.1 := by omega
      refine a_iload_n dX7_builds_49 rfl ?_
      refine a_aload_n dX7_builds_50 rfl ?_
      refine a_get fl_X7_7 dX7_builds_51 rfl rfl ?_
      refine a_icmp_ge 70 dX7_builds_54 (by decide) (fun _ => ?_) (fun z => absurd (nI_le (Nat.le_refl _) (by omega)) z)
      rcases Nat.eq_zero_or_pos G with hz | hz
      · rw [hz] at hR ⊢
        refine a_iload_n dX7_builds_70 rfl ?_
        refine a_if_ne 78 dX7_builds_71 (by decide) (fun z => absurd (by decide) z) (fun _ => ?_)
        refine a_iconst 0 dX7_builds_74 (by decide) ?_
        refine a_goto 82 dX7_builds_75 (by decide) ?_
        refine a_istore_n dX7_builds_82 (by decide) rfl ?_
        refine a_iconst 1 dX7_builds_83 (by decide) ?_
        refine a_istore_n dX7_builds_84 (by decide) rfl ?_
        refine a_iload_n dX7_builds_85 rfl ?_
        refine a_if_le 162 dX7_builds_86 (by decide) (fun _ => ?_) (fun z => absurd (by decide) z)
        refine a_vret rfl dX7_builds_162 (by decide) (by decide) ?_
        refine ⟨rfl, ?_⟩
        have : ∀ (k r : Nat) (σ : dT), σ.2.2 = 0 → dOu u.1 A W (mOn v) 0 k r σ = σ := by
          intro k r σ h0
          cases k with
          | zero => rfl
          | succ k => unfold dOu; rw [h0]; rfl
        rw [this _ _ _ rfl] at hR
        rw [← hR]
      · rw [if_pos hz] at hR
        refine a_iload_n dX7_builds_70 rfl ?_
        refine a_if_ne 78 dX7_builds_71 (by decide) (fun _ => ?_) (fun z => absurd z (nI_ne0 hz (by omega)))
        refine a_aload_n dX7_builds_78 rfl ?_
        refine a_get fl_X7_7 dX7_builds_79 rfl rfl ?_
        refine a_istore_n dX7_builds_82 (by decide) rfl ?_
        refine a_iconst 1 dX7_builds_83 (by decide) ?_
        refine a_istore_n dX7_builds_84 (by decide) rfl ?_
        exact outer hz u.1 1 (fFl u.1 (fun _ => -1) u.2.1, fun _ => 0, u.1) (Nat.le_refl _) (Nat.le_refl _) (by omega) (d0_iv (fun _ _ => rfl) (fun j hj => by simp [fFl, hj])) hR
    | succ n ih =>
      intro j hj
      have hi : vp_in (nI j) 61 := in61 (by omega)
      refine a_iload_n dX7_builds_49 rfl ?_
      refine a_aload_n dX7_builds_50 rfl ?_
      refine a_get fl_X7_7 dX7_builds_51 rfl rfl ?_
      refine a_icmp_ge 70 dX7_builds_54 (by decide) (fun z => absurd z (nI_ge (by omega) (by omega))) (fun _ => ?_)
      refine a_aload_n dX7_builds_57 rfl ?_
      refine a_get fl_X7_27 dX7_builds_58 rfl rfl ?_
      refine a_iload_n dX7_builds_61 rfl ?_
      refine a_iconst (-1) dX7_builds_62 (by decide) ?_
      refine a_iast dX7_builds_63 rfl (by assumption) ?_
      refine a_iinc (nI (j + 1)) dX7_builds_64 rfl (nI_1 _) (by decide) rfl ?_
      refine a_goto 49 dX7_builds_67 (by decide) ?_
      refine a_to rfl rfl rfl ?_ (ih (j + 1) (by omega))
      rw [cl61 (by omega), fFl_s (v := fun _ => -1)]
      rfl
  have most : ∀ (n j a : Nat), j + n = 10 → a ≤ 16 → aLp (fun j c => if mOn v j then (if c < W j then W j else c) else c) n j a = G → aJ l X mX7_builds (aEd X mX7_builds is19 (fun o h' => o = .inl none ∧ h' = aMo f v (u.1, R, u.2.2) k q)) 0 0 4 [.ref 0, .int (nI a), .int (nI j), .null, .null] [] (aMo f v u k q) := by
    intro n
    induction n with
    | zero =>
      intro j a hj ha hr
      obtain rfl : j = 10 := by omega
      obtain rfl : a = G := hr
      refine a_iload_n dX7_builds_4 rfl ?_
      refine a_bipush 10 dX7_builds_5 (by decide) ?_
      refine a_icmp_ge 47 dX7_builds_7 (by decide) (fun _ => ?_) (fun z => absurd ge10_t z)
      refine a_iconst 0 dX7_builds_47 (by decide) ?_
      refine a_istore_n dX7_builds_48 (by decide) rfl ?_
      have := fill u.1 0 (by omega)
      rw [fFl_0] at this
      exact this
    | succ n ih =>
      intro j a hj ha hr
      have hi : vp_in (nI j) 10 := in10 (by omega)
      have hw := hW j (by omega)
      refine a_iload_n dX7_builds_4 rfl ?_
      refine a_bipush 10 dX7_builds_5 (by decide) ?_
      refine a_icmp_ge 47 dX7_builds_7 (by decide) (fun z => absurd z (ge10_f (by omega))) (fun _ => ?_)
      refine a_aload_n dX7_builds_10 rfl ?_
      refine a_get fl_X7_13 dX7_builds_11 rfl rfl ?_
      refine a_iload_n dX7_builds_14 rfl ?_
      refine a_iald dX7_builds_15 rfl (by assumption) ?_
      refine a_iconst 2 dX7_builds_16 (by decide) ?_
      refine a_icmp_ne 39 dX7_builds_17 (by decide) (fun c17 => ?_) (fun c17 => ?_)
      · rw [cl10 (by omega)] at c17
        refine a_iload_n dX7_builds_39 rfl ?_
        refine a_istore_n dX7_builds_40 (by decide) rfl ?_
        refine a_iinc (nI (j + 1)) dX7_builds_41 rfl (nI_1 _) (by decide) rfl ?_
        refine a_goto 4 dX7_builds_44 (by decide) ?_
        exact ih (j + 1) a (by omega) ha (by rw [← hr]; simp [aLp, c17])
      · rw [cl10 (by omega)] at c17
        refine a_aload_n dX7_builds_20 rfl ?_
        refine a_get fl_X7_20 dX7_builds_21 rfl rfl ?_
        refine a_iload_n dX7_builds_24 rfl ?_
        refine a_iald dX7_builds_25 rfl (by assumption) ?_
        rw [cl10 (by omega), hWt j (by omega)]
        refine a_iload_n dX7_builds_26 rfl ?_
        refine a_icmp_le 39 dX7_builds_27 (by decide) (fun c27 => ?_) (fun c27 => ?_)
        · rw [nI_leI (by omega) (by omega)] at c27
          refine a_iload_n dX7_builds_39 rfl ?_
          refine a_istore_n dX7_builds_40 (by decide) rfl ?_
          refine a_iinc (nI (j + 1)) dX7_builds_41 rfl (nI_1 _) (by decide) rfl ?_
          refine a_goto 4 dX7_builds_44 (by decide) ?_
          exact ih (j + 1) a (by omega) ha (by rw [← hr]; simp [aLp, c17, Nat.not_lt.mpr c27])
        · rw [nI_leI (by omega) (by omega)] at c27
          refine a_aload_n dX7_builds_30 rfl ?_
          refine a_get fl_X7_20 dX7_builds_31 rfl rfl ?_
          refine a_iload_n dX7_builds_34 rfl ?_
          refine a_iald dX7_builds_35 rfl (by assumption) ?_
          refine a_goto 40 dX7_builds_36 (by decide) ?_
          rw [cl10 (by omega), hWt j (by omega)]
          refine a_istore_n dX7_builds_40 (by decide) rfl ?_
          refine a_iinc (nI (j + 1)) dX7_builds_41 rfl (nI_1 _) (by decide) rfl ?_
          refine a_goto 4 dX7_builds_44 (by decide) ?_
          exact ih (j + 1) (W j) (by omega) hw (by rw [← hr]; simp [aLp, c17, Nat.not_le.mp c27])
  exact most 10 0 0 rfl (by omega) hGe
theorem c_X7_remembers (hM : u.1 ≤ 61) : aWr l X mX7_remembers is19 [.ref 0] (aMo f v u k q) none (aMo f v (u.1, u.2.1, fFl u.1 u.2.1 u.2.2.1, u.2.2.2) k q) := by
  refine aMt.of (by decide) rfl (Nat.le_of_ble_eq_true rfl) ?_
  refine a_iconst 0 dX7_remembers_0 (by decide) ?_
  refine a_istore_n dX7_remembers_1 (by decide) rfl ?_
  have lp : ∀ (n j : Nat), j + n = u.1 → aJ l X mX7_remembers (aEd X mX7_remembers is19 (fun o h' => o = .inl none ∧ h' = aMo f v (u.1, u.2.1, fFl u.1 u.2.1 u.2.2.1, u.2.2.2) k q)) 0 0 2 [.ref 0, .int (nI j)] [] (aMo f v (u.1, u.2.1, fFl j u.2.1 u.2.2.1, u.2.2.2) k q) := by
    intro n
    induction n with
    | zero =>
      intro j hj
      obtain rfl : j = u.1 := by omega
      refine a_iload_n dX7_remembers_2 rfl ?_
      refine a_aload_n dX7_remembers_3 rfl ?_
      refine a_get fl_X7_7 dX7_remembers_4 rfl rfl ?_
      refine a_icmp_ge 28 dX7_remembers_7 (by decide) (fun _ => ?_) (fun z => absurd (nI_le (Nat.le_refl _) (by omega)) z)
      refine a_vret rfl dX7_remembers_28 (by decide) (by decide) ?_
      exact ⟨rfl, rfl⟩
    | succ n ih =>
      intro j hj
      have hi : vp_in (nI j) 61 := in61 (by omega)
      refine a_iload_n dX7_remembers_2 rfl ?_
      refine a_aload_n dX7_remembers_3 rfl ?_
      refine a_get fl_X7_7 dX7_remembers_4 rfl rfl ?_
      refine a_icmp_ge 28 dX7_remembers_7 (by decide) (fun z => absurd z (nI_ge (by omega) (by omega))) (fun _ => ?_)
      refine a_aload_n dX7_remembers_10 rfl ?_
      refine a_get fl_X7_30 dX7_remembers_11 rfl rfl ?_
      refine a_iload_n dX7_remembers_14 rfl ?_
      refine a_aload_n dX7_remembers_15 rfl ?_
      refine a_get fl_X7_27 dX7_remembers_16 rfl rfl ?_
      refine a_iload_n dX7_remembers_19 rfl ?_
      refine a_iald dX7_remembers_20 rfl (by assumption) ?_
      refine a_iast dX7_remembers_21 rfl (by assumption) ?_
      refine a_iinc (nI (j + 1)) dX7_remembers_22 rfl (nI_1 _) (by decide) rfl ?_
      refine a_goto 2 dX7_remembers_25 (by decide) ?_
      refine a_to rfl rfl rfl ?_ (ih (j + 1) (by omega))
      rw [cl61 (by omega), fFl_s (v := u.2.1)]
      rfl
  have := lp u.1 0 (by omega)
  rw [fFl_0] at this
  exact this
theorem c_X7_differing (hM : u.1 ≤ 61) : aRd l X mX7_differing is19 [.ref 0] (aMo f v u k q) (.int (sCc u.2.2.1 u.2.1 u.1)) := by
  refine aMt.of (by decide) rfl (Nat.le_of_ble_eq_true rfl) ?_
  generalize hr : sCc u.2.2.1 u.2.1 u.1 = r
  refine a_iconst 0 dX7_differing_0 (by decide) ?_
  refine a_istore_n dX7_differing_1 (by decide) rfl ?_
  refine a_iconst 0 dX7_differing_2 (by decide) ?_
  refine a_istore_n dX7_differing_3 (by decide) rfl ?_
  have lp : ∀ (n j : Nat) (a : Int32), j + n = u.1 → aLp (fun j c => if u.2.2.1 j = u.2.1 j then c else c + 1) n j a = r → aJ l X mX7_differing (aEd X mX7_differing is19 (fun o h' => o = .inl (some (.int r)) ∧ h' = aMo f v u k q)) 0 0 4 [.ref 0, .int a, .int (nI j)] [] (aMo f v u k q) := by
    intro n
    induction n with
    | zero =>
      intro j a hj hq
      obtain rfl : j = u.1 := by omega
      refine a_iload_n dX7_differing_4 rfl ?_
      refine a_aload_n dX7_differing_5 rfl ?_
      refine a_get fl_X7_7 dX7_differing_6 rfl rfl ?_
      refine a_icmp_ge 41 dX7_differing_9 (by decide) (fun _ => ?_) (fun z => absurd (nI_le (Nat.le_refl _) (by omega)) z)
      refine a_iload_n dX7_differing_41 rfl ?_
      refine a_iret rfl dX7_differing_42 (by decide) (by decide) ?_
      exact ⟨by rw [← hq]; rfl, rfl⟩
    | succ n ih =>
      intro j a hj hq
      have hi : vp_in (nI j) 61 := in61 (by omega)
      refine a_iload_n dX7_differing_4 rfl ?_
      refine a_aload_n dX7_differing_5 rfl ?_
      refine a_get fl_X7_7 dX7_differing_6 rfl rfl ?_
      refine a_icmp_ge 41 dX7_differing_9 (by decide) (fun z => absurd z (nI_ge (by omega) (by omega))) (fun _ => ?_)
      refine a_iload_n dX7_differing_12 rfl ?_
      refine a_aload_n dX7_differing_13 rfl ?_
      refine a_get fl_X7_27 dX7_differing_14 rfl rfl ?_
      refine a_iload_n dX7_differing_17 rfl ?_
      refine a_iald dX7_differing_18 rfl (by assumption) ?_
      refine a_aload_n dX7_differing_19 rfl ?_
      refine a_get fl_X7_30 dX7_differing_20 rfl rfl ?_
      refine a_iload_n dX7_differing_23 rfl ?_
      refine a_iald dX7_differing_24 rfl (by assumption) ?_
      refine a_icmp_eq 32 dX7_differing_25 (by decide) (fun c25 => ?_) (fun c25 => ?_)
      · rw [cl61 (by omega)] at c25
        refine a_iconst 0 dX7_differing_32 (by decide) ?_
        refine a_iadd dX7_differing_33 ?_
        refine a_istore_n dX7_differing_34 (by decide) rfl ?_
        refine a_iinc (nI (j + 1)) dX7_differing_35 rfl (nI_1 _) (by decide) rfl ?_
        refine a_goto 4 dX7_differing_38 (by decide) ?_
        exact ih (j + 1) (a + 0) (by omega) (by rw [← hq]; simp [aLp, c25])
      · rw [cl61 (by omega)] at c25
        refine a_iconst 1 dX7_differing_28 (by decide) ?_
        refine a_goto 33 dX7_differing_29 (by decide) ?_
        refine a_iadd dX7_differing_33 ?_
        refine a_istore_n dX7_differing_34 (by decide) rfl ?_
        refine a_iinc (nI (j + 1)) dX7_differing_35 rfl (nI_1 _) (by decide) rfl ?_
        refine a_goto 4 dX7_differing_38 (by decide) ?_
        exact ih (j + 1) (a + 1) (by omega) (by rw [← hq]; simp [aLp, Ne.symm c25])
  exact lp u.1 0 0 (by omega) hr
/-- the server x is up -/
def mUx (v : sT) (x : Int32) : Bool := decide (¬ x = -1) && decide (v.1 x.toNatClampNeg = 2)
def mCf (w : Nat → Int32) (v : sT) (M : Nat) : Int32 := aLp (fun j c => if mUx v (w j) then c else c + 1) M 0 0
/-- slots hold servers, or none -/
def uOk (T : Nat → Int32) (M : Nat) : Prop := ∀ j, j < M → T j = -1 ∨ ∃ s, s < 10 ∧ T j = nI s
def uNw (v : sT) (u : uT) (A W : Nat → Nat) : uT := (u.1, mBd u.1 A W (mOn v) u.2.1, fFl u.1 u.2.1 u.2.2.1, sCc (fFl u.1 u.2.1 u.2.2.1) (mBd u.1 A W (mOn v) u.2.1) u.1, mCf (fFl u.1 u.2.1 u.2.2.1) v u.1)
theorem c_X7_comesAnew (hM : u.1 ∈ slP) (hT : uOk u.2.1 u.1) (A W : Nat → Nat) (hN : ∀ s, s < 10 → v.1 s = 2 → v.2.1 s = nI (A s)) (hA : ∀ s, s < 10 → A s ≤ 9999) (hWt : ∀ s, s < 10 → v.2.2.1 s = nI (W s)) (hW : ∀ s, s < 10 → W s ≤ 16) : aWr l X mX7_comesAnew is19 [.ref 0] (aMo f v u k q) none (aMo f v (uNw v u A W) k q) := by
  refine aMt.of (by decide) rfl (Nat.le_of_ble_eq_true rfl) ?_
  obtain ⟨hM5, hM61⟩ := slP_b hM
  generalize hr : mCf (fFl u.1 u.2.1 u.2.2.1) v u.1 = r
  have hun : uNw v u A W = (u.1, mBd u.1 A W (mOn v) u.2.1, fFl u.1 u.2.1 u.2.2.1, sCc (fFl u.1 u.2.1 u.2.2.1) (mBd u.1 A W (mOn v) u.2.1) u.1, r) := by rw [← hr]; rfl
  rw [hun]
  refine a_aload_n dX7_comesAnew_0 rfl ?_
  refine a_VvW is19 (_) k_X7_comesAnew_106 (c_X7_remembers (f := f) (v := v) (u := u) (k := k) (q := q) hM61) dX7_comesAnew_1 rfl rfl rfl rfl rfl rfl (Nat.le_of_ble_eq_true rfl) ⟨Nat.le_of_ble_eq_true rfl, Nat.le_of_ble_eq_true rfl⟩ ⟨rfl, rfl⟩ (Nat.le_of_ble_eq_true rfl) rfl ?_
  refine a_aload_n dX7_comesAnew_4 rfl ?_
  refine a_VvW is19 (_) k_X7_comesAnew_109 (c_X7_builds (f := f) (v := v) (u := (u.1, u.2.1, fFl u.1 u.2.1 u.2.2.1, u.2.2.2)) (k := k) (q := q) hM A W hN hA hWt hW) dX7_comesAnew_5 rfl rfl rfl rfl rfl rfl (Nat.le_of_ble_eq_true rfl) ⟨Nat.le_of_ble_eq_true rfl, Nat.le_of_ble_eq_true rfl⟩ ⟨rfl, rfl⟩ (Nat.le_of_ble_eq_true rfl) rfl ?_
  refine a_aload_n dX7_comesAnew_8 rfl ?_
  refine a_aload_n dX7_comesAnew_9 rfl ?_
  refine a_ViR is19 k_X7_comesAnew_112 (c_X7_differing (f := f) (v := v) (u := (u.1, mBd u.1 A W (mOn v) u.2.1, fFl u.1 u.2.1 u.2.2.1, u.2.2.2)) (k := k) (q := q) hM61) dX7_comesAnew_10 rfl rfl rfl rfl rfl rfl (Nat.le_of_ble_eq_true rfl) ⟨Nat.le_of_ble_eq_true rfl, Nat.le_of_ble_eq_true rfl⟩ ⟨rfl, rfl⟩ ?_
  refine a_put fp_X7_76 dX7_comesAnew_13 rfl (Nat.le_of_ble_eq_true rfl) (fun _ => ⟨rfl, rfl⟩) ?_
  refine a_aload_n dX7_comesAnew_16 rfl ?_
  refine a_iconst 0 dX7_comesAnew_17 (by decide) ?_
  refine a_put fp_X7_79 dX7_comesAnew_18 rfl (Nat.le_of_ble_eq_true rfl) (fun _ => ⟨rfl, rfl⟩) ?_
  refine a_iconst 0 dX7_comesAnew_21 (by decide) ?_
  refine a_istore_n dX7_comesAnew_22 (by decide) rfl ?_
  have lp : ∀ (n j : Nat) (a : Int32), j + n = u.1 → aLp (fun j c => if mUx v (fFl u.1 u.2.1 u.2.2.1 j) then c else c + 1) n j a = r → aJ l X mX7_comesAnew (aEd X mX7_comesAnew is19 (fun o h' => o = .inl none ∧ h' = aMo f v (u.1, mBd u.1 A W (mOn v) u.2.1, fFl u.1 u.2.1 u.2.2.1, sCc (fFl u.1 u.2.1 u.2.2.1) (mBd u.1 A W (mOn v) u.2.1) u.1, r) k q)) 0 0 23 [.ref 0, .int (nI j)] [] (aMo f v (u.1, mBd u.1 A W (mOn v) u.2.1, fFl u.1 u.2.1 u.2.2.1, sCc (fFl u.1 u.2.1 u.2.2.1) (mBd u.1 A W (mOn v) u.2.1) u.1, a) k q) := by
    intro n
    induction n with
    | zero =>
      intro j a hj hq
      obtain rfl : j = u.1 := by omega
      refine a_iload_n dX7_comesAnew_23 rfl ?_
      refine a_aload_n dX7_comesAnew_24 rfl ?_
      refine a_get fl_X7_7 dX7_comesAnew_25 rfl rfl ?_
      refine a_icmp_ge 76 dX7_comesAnew_28 (by decide) (fun _ => ?_) (fun z => absurd (nI_le (Nat.le_refl _) (by omega)) z)
      refine a_vret rfl dX7_comesAnew_76 (by decide) (by decide) ?_
      exact ⟨rfl, by rw [← hq]; rfl⟩
    | succ n ih =>
      intro j a hj hq
      have hi : vp_in (nI j) 61 := in61 (by omega)
      refine a_iload_n dX7_comesAnew_23 rfl ?_
      refine a_aload_n dX7_comesAnew_24 rfl ?_
      refine a_get fl_X7_7 dX7_comesAnew_25 rfl rfl ?_
      refine a_icmp_ge 76 dX7_comesAnew_28 (by decide) (fun z => absurd z (nI_ge (by omega) (by omega))) (fun _ => ?_)
      refine a_aload_n dX7_comesAnew_31 rfl ?_
      refine a_dup dX7_comesAnew_32 rfl ?_
      refine a_get fl_X7_79 dX7_comesAnew_33 rfl rfl ?_
      refine a_aload_n dX7_comesAnew_36 rfl ?_
      refine a_get fl_X7_30 dX7_comesAnew_37 rfl rfl ?_
      refine a_iload_n dX7_comesAnew_40 rfl ?_
      refine a_iald dX7_comesAnew_41 rfl (by assumption) ?_
      refine a_iconst (-1) dX7_comesAnew_42 (by decide) ?_
      refine a_icmp_eq 61 dX7_comesAnew_43 (by decide) (fun c43 => ?_) (fun c43 => ?_)
      · rw [cl61 (by omega)] at c43
        dsimp only at c43
        refine a_iconst 1 dX7_comesAnew_61 (by decide) ?_
        refine a_goto 66 dX7_comesAnew_62 (by decide) ?_
        refine a_iadd dX7_comesAnew_66 ?_
        refine a_put fp_X7_79 dX7_comesAnew_67 rfl (Nat.le_of_ble_eq_true rfl) (fun _ => ⟨rfl, rfl⟩) ?_
        refine a_iinc (nI (j + 1)) dX7_comesAnew_70 rfl (nI_1 _) (by decide) rfl ?_
        refine a_goto 23 dX7_comesAnew_73 (by decide) ?_
        refine a_to rfl rfl rfl ?_ (ih (j + 1) (a + 1) (by omega) (by rw [← hq]; simp [aLp, mUx, c43]))
        rfl
      · rw [cl61 (by omega)] at c43
        dsimp only at c43
        have hw : fFl u.1 u.2.1 u.2.2.1 j = u.2.1 j := by simp [fFl, show j < u.1 by omega]
        obtain ⟨s, hs, hes⟩ : ∃ s, s < 10 ∧ fFl u.1 u.2.1 u.2.2.1 j = nI s := by
          rw [hw] at c43 ⊢
          rcases hT j (by omega) with z | z
          · exact absurd z c43
          · exact z
        refine a_aload_n dX7_comesAnew_46 rfl ?_
        refine a_get fl_X7_13 dX7_comesAnew_47 rfl rfl ?_
        refine a_aload_n dX7_comesAnew_50 rfl ?_
        refine a_get fl_X7_30 dX7_comesAnew_51 rfl rfl ?_
        refine a_iload_n dX7_comesAnew_54 rfl ?_
        refine a_iald dX7_comesAnew_55 rfl (by assumption) ?_
        rw [cl61 (by omega)]
        dsimp only
        rw [hes]
        refine a_iald dX7_comesAnew_56 rfl (in10 hs) ?_
        refine a_iconst 2 dX7_comesAnew_57 (by decide) ?_
        refine a_icmp_eq 65 dX7_comesAnew_58 (by decide) (fun c58 => ?_) (fun c58 => ?_)
        · rw [cl10 hs] at c58
          refine a_iconst 0 dX7_comesAnew_65 (by decide) ?_
          refine a_iadd dX7_comesAnew_66 ?_
          refine a_put fp_X7_79 dX7_comesAnew_67 rfl (Nat.le_of_ble_eq_true rfl) (fun _ => ⟨rfl, rfl⟩) ?_
          refine a_iinc (nI (j + 1)) dX7_comesAnew_70 rfl (nI_1 _) (by decide) rfl ?_
          refine a_goto 23 dX7_comesAnew_73 (by decide) ?_
          refine a_to rfl rfl rfl ?_ (ih (j + 1) (a + 0) (by omega) (by rw [← hq]; simp [aLp, mUx, hes, cl10 hs, c58, nI_m1 (show s < 2 ^ 31 by omega)]))
          rfl
        · rw [cl10 hs] at c58
          refine a_iconst 1 dX7_comesAnew_61 (by decide) ?_
          refine a_goto 66 dX7_comesAnew_62 (by decide) ?_
          refine a_iadd dX7_comesAnew_66 ?_
          refine a_put fp_X7_79 dX7_comesAnew_67 rfl (Nat.le_of_ble_eq_true rfl) (fun _ => ⟨rfl, rfl⟩) ?_
          refine a_iinc (nI (j + 1)) dX7_comesAnew_70 rfl (nI_1 _) (by decide) rfl ?_
          refine a_goto 23 dX7_comesAnew_73 (by decide) ?_
          refine a_to rfl rfl rfl ?_ (ih (j + 1) (a + 1) (by omega) (by rw [← hq]; simp [aLp, mUx, hes, cl10 hs, c58]))
          rfl
  exact lp u.1 0 0 (by omega) hr
end MO2
