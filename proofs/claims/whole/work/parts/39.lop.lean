/-! written by wip/whole/pp.py out of wip/whole/src/39.lop.lean -/

/-! ===== the law's cases ===== -/
abbrev LV (i : Nat) : List Value := [.retAddr 1, .ref 0, .ref 55, .ref 74, .ref 75, .int (nI i), .null, .null, .null, .null]
theorem kw_91 {nm : String} {hh : List (Nat × Nat × Nat × Nat)} : aKX (mLw nm hh) mL_reset 91 3 := ⟨cb_L_reset, rfl, ml_L_91, st_L_reset, ⟨Nat.le_of_ble_eq_true rfl, Nat.le_of_ble_eq_true rfl⟩⟩
theorem kw_96 {nm : String} {hh : List (Nat × Nat × Nat × Nat)} : aKV (mLw nm hh) mX7_reset 96 1 7 := ⟨cb_X7_reset, rfl, ml_L_96, iv_X7_reset, sl_X7_reset, ⟨_, _, rfl⟩, ⟨Nat.le_of_ble_eq_true rfl, Nat.le_of_ble_eq_true rfl⟩⟩
theorem kw_97 {nm : String} {hh : List (Nat × Nat × Nat × Nat)} : aKV (mLw nm hh) mX7_thrown 97 0 7 := ⟨cb_X7_thrown, rfl, ml_L_97, iv_X7_thrown, sl_X7_thrown, ⟨_, _, rfl⟩, ⟨Nat.le_of_ble_eq_true rfl, Nat.le_of_ble_eq_true rfl⟩⟩
theorem kw_100 {nm : String} {hh : List (Nat × Nat × Nat × Nat)} : aKX (mLw nm hh) mL_serverAt 100 3 := ⟨cb_L_serverAt, rfl, ml_L_100, st_L_serverAt, ⟨Nat.le_of_ble_eq_true rfl, Nat.le_of_ble_eq_true rfl⟩⟩
theorem kw_102 {nm : String} {hh : List (Nat × Nat × Nat × Nat)} : aKV (mLw nm hh) mX7_serverAt 102 1 7 := ⟨cb_X7_serverAt, rfl, ml_L_102, iv_X7_serverAt, sl_X7_serverAt, ⟨_, _, rfl⟩, ⟨Nat.le_of_ble_eq_true rfl, Nat.le_of_ble_eq_true rfl⟩⟩
theorem kw_103 {nm : String} {hh : List (Nat × Nat × Nat × Nat)} : aKV (mLw nm hh) mX6_disruption 103 0 6 := ⟨cb_X6_disruption, rfl, ml_L_103, iv_X6_disruption, sl_X6_disruption, ⟨_, _, rfl⟩, ⟨Nat.le_of_ble_eq_true rfl, Nat.le_of_ble_eq_true rfl⟩⟩
theorem kw_106 {nm : String} {hh : List (Nat × Nat × Nat × Nat)} : aKV (mLw nm hh) mX7_disruption 106 0 7 := ⟨cb_X7_disruption, rfl, ml_L_106, iv_X7_disruption, sl_X7_disruption, ⟨_, _, rfl⟩, ⟨Nat.le_of_ble_eq_true rfl, Nat.le_of_ble_eq_true rfl⟩⟩
theorem kw_107 {nm : String} {hh : List (Nat × Nat × Nat × Nat)} : aKV (mLw nm hh) mX6_forcedDisruption 107 0 6 := ⟨cb_X6_forcedDisruption, rfl, ml_L_107, iv_X6_forcedDisruption, sl_X6_forcedDisruption, ⟨_, _, rfl⟩, ⟨Nat.le_of_ble_eq_true rfl, Nat.le_of_ble_eq_true rfl⟩⟩
theorem kw_110 {nm : String} {hh : List (Nat × Nat × Nat × Nat)} : aKV (mLw nm hh) mX7_forcedDisruption 110 0 7 := ⟨cb_X7_forcedDisruption, rfl, ml_L_110, iv_X7_forcedDisruption, sl_X7_forcedDisruption, ⟨_, _, rfl⟩, ⟨Nat.le_of_ble_eq_true rfl, Nat.le_of_ble_eq_true rfl⟩⟩
theorem kw_111 {nm : String} {hh : List (Nat × Nat × Nat × Nat)} : aKV (mLw nm hh) mX6_imbalance 111 0 6 := ⟨cb_X6_imbalance, rfl, ml_L_111, iv_X6_imbalance, sl_X6_imbalance, ⟨_, _, rfl⟩, ⟨Nat.le_of_ble_eq_true rfl, Nat.le_of_ble_eq_true rfl⟩⟩
theorem kw_115 {nm : String} {hh : List (Nat × Nat × Nat × Nat)} : aKV (mLw nm hh) mX7_imbalance 115 0 7 := ⟨cb_X7_imbalance, rfl, ml_L_115, iv_X7_imbalance, sl_X7_imbalance, ⟨_, _, rfl⟩, ⟨Nat.le_of_ble_eq_true rfl, Nat.le_of_ble_eq_true rfl⟩⟩
theorem kw_116 {nm : String} {hh : List (Nat × Nat × Nat × Nat)} : aKX (mLw nm hh) mL_addServer 116 4 := ⟨cb_L_addServer, rfl, ml_L_116, st_L_addServer, ⟨Nat.le_of_ble_eq_true rfl, Nat.le_of_ble_eq_true rfl⟩⟩
theorem kw_119 {nm : String} {hh : List (Nat × Nat × Nat × Nat)} : aKV (mLw nm hh) mX7_addServer 119 2 7 := ⟨cb_X7_addServer, rfl, ml_L_119, iv_X7_addServer, sl_X7_addServer, ⟨_, _, rfl⟩, ⟨Nat.le_of_ble_eq_true rfl, Nat.le_of_ble_eq_true rfl⟩⟩
theorem kw_120 {nm : String} {hh : List (Nat × Nat × Nat × Nat)} : aKX (mLw nm hh) mL_removeServer 120 3 := ⟨cb_L_removeServer, rfl, ml_L_120, st_L_removeServer, ⟨Nat.le_of_ble_eq_true rfl, Nat.le_of_ble_eq_true rfl⟩⟩
theorem kw_122 {nm : String} {hh : List (Nat × Nat × Nat × Nat)} : aKV (mLw nm hh) mX7_removeServer 122 1 7 := ⟨cb_X7_removeServer, rfl, ml_L_122, iv_X7_removeServer, sl_X7_removeServer, ⟨_, _, rfl⟩, ⟨Nat.le_of_ble_eq_true rfl, Nat.le_of_ble_eq_true rfl⟩⟩
theorem kw_123 {nm : String} {hh : List (Nat × Nat × Nat × Nat)} : aKX (mLw nm hh) mL_setWeight 123 4 := ⟨cb_L_setWeight, rfl, ml_L_123, st_L_setWeight, ⟨Nat.le_of_ble_eq_true rfl, Nat.le_of_ble_eq_true rfl⟩⟩
theorem kw_125 {nm : String} {hh : List (Nat × Nat × Nat × Nat)} : aKV (mLw nm hh) mX7_setWeight 125 2 7 := ⟨cb_X7_setWeight, rfl, ml_L_125, iv_X7_setWeight, sl_X7_setWeight, ⟨_, _, rfl⟩, ⟨Nat.le_of_ble_eq_true rfl, Nat.le_of_ble_eq_true rfl⟩⟩
theorem kw_126 {nm : String} {hh : List (Nat × Nat × Nat × Nat)} : aKX (mLw nm hh) mL_setUp 126 4 := ⟨cb_L_setUp, rfl, ml_L_126, st_L_setUp, ⟨Nat.le_of_ble_eq_true rfl, Nat.le_of_ble_eq_true rfl⟩⟩
theorem kw_129 {nm : String} {hh : List (Nat × Nat × Nat × Nat)} : aKV (mLw nm hh) mX7_setUp 129 2 7 := ⟨cb_X7_setUp, rfl, ml_L_129, iv_X7_setUp, sl_X7_setUp, ⟨_, _, rfl⟩, ⟨Nat.le_of_ble_eq_true rfl, Nat.le_of_ble_eq_true rfl⟩⟩
theorem kw_130 {nm : String} {hh : List (Nat × Nat × Nat × Nat)} : aKV (mLw nm hh) mX6_serverCount 130 0 6 := ⟨cb_X6_serverCount, rfl, ml_L_130, iv_X6_serverCount, sl_X6_serverCount, ⟨_, _, rfl⟩, ⟨Nat.le_of_ble_eq_true rfl, Nat.le_of_ble_eq_true rfl⟩⟩
theorem kw_133 {nm : String} {hh : List (Nat × Nat × Nat × Nat)} : aKV (mLw nm hh) mX7_serverCount 133 0 7 := ⟨cb_X7_serverCount, rfl, ml_L_133, iv_X7_serverCount, sl_X7_serverCount, ⟨_, _, rfl⟩, ⟨Nat.le_of_ble_eq_true rfl, Nat.le_of_ble_eq_true rfl⟩⟩
theorem kw_134 {nm : String} {hh : List (Nat × Nat × Nat × Nat)} : aKX (mLw nm hh) mL_serverNamed 134 3 := ⟨cb_L_serverNamed, rfl, ml_L_134, st_L_serverNamed, ⟨Nat.le_of_ble_eq_true rfl, Nat.le_of_ble_eq_true rfl⟩⟩
theorem kw_136 {nm : String} {hh : List (Nat × Nat × Nat × Nat)} : aKV (mLw nm hh) mX7_serverNamed 136 1 7 := ⟨cb_X7_serverNamed, rfl, ml_L_136, iv_X7_serverNamed, sl_X7_serverNamed, ⟨_, _, rfl⟩, ⟨Nat.le_of_ble_eq_true rfl, Nat.le_of_ble_eq_true rfl⟩⟩
theorem kw_137 {nm : String} {hh : List (Nat × Nat × Nat × Nat)} : aKX (mLw nm hh) mL_preference 137 4 := ⟨cb_L_preference, rfl, ml_L_137, st_L_preference, ⟨Nat.le_of_ble_eq_true rfl, Nat.le_of_ble_eq_true rfl⟩⟩
theorem kw_139 {nm : String} {hh : List (Nat × Nat × Nat × Nat)} : aKV (mLw nm hh) mX7_preference 139 2 7 := ⟨cb_X7_preference, rfl, ml_L_139, iv_X7_preference, sl_X7_preference, ⟨_, _, rfl⟩, ⟨Nat.le_of_ble_eq_true rfl, Nat.le_of_ble_eq_true rfl⟩⟩
theorem kw_140 {nm : String} {hh : List (Nat × Nat × Nat × Nat)} : aKX (mLw nm hh) mL_slotsOf 140 3 := ⟨cb_L_slotsOf, rfl, ml_L_140, st_L_slotsOf, ⟨Nat.le_of_ble_eq_true rfl, Nat.le_of_ble_eq_true rfl⟩⟩
theorem kw_142 {nm : String} {hh : List (Nat × Nat × Nat × Nat)} : aKV (mLw nm hh) mX7_slotsOf 142 1 7 := ⟨cb_X7_slotsOf, rfl, ml_L_142, iv_X7_slotsOf, sl_X7_slotsOf, ⟨_, _, rfl⟩, ⟨Nat.le_of_ble_eq_true rfl, Nat.le_of_ble_eq_true rfl⟩⟩
theorem kw_143 {nm : String} {hh : List (Nat × Nat × Nat × Nat)} : aKX (mLw nm hh) mL_idealShare 143 3 := ⟨cb_L_idealShare, rfl, ml_L_143, st_L_idealShare, ⟨Nat.le_of_ble_eq_true rfl, Nat.le_of_ble_eq_true rfl⟩⟩
theorem kw_146 {nm : String} {hh : List (Nat × Nat × Nat × Nat)} : aKV (mLw nm hh) mX7_idealShare 146 1 7 := ⟨cb_X7_idealShare, rfl, ml_L_146, iv_X7_idealShare, sl_X7_idealShare, ⟨_, _, rfl⟩, ⟨Nat.le_of_ble_eq_true rfl, Nat.le_of_ble_eq_true rfl⟩⟩
theorem kw_147 {nm : String} {hh : List (Nat × Nat × Nat × Nat)} : aKX (mLw nm hh) mL_removalDisruption 147 3 := ⟨cb_L_removalDisruption, rfl, ml_L_147, st_L_removalDisruption, ⟨Nat.le_of_ble_eq_true rfl, Nat.le_of_ble_eq_true rfl⟩⟩
theorem kw_149 {nm : String} {hh : List (Nat × Nat × Nat × Nat)} : aKV (mLw nm hh) mX7_removalDisruption 149 1 7 := ⟨cb_X7_removalDisruption, rfl, ml_L_149, iv_X7_removalDisruption, sl_X7_removalDisruption, ⟨_, _, rfl⟩, ⟨Nat.le_of_ble_eq_true rfl, Nat.le_of_ble_eq_true rfl⟩⟩
theorem kw_150 {nm : String} {hh : List (Nat × Nat × Nat × Nat)} : aKX (mLw nm hh) mL_serverOf 150 3 := ⟨cb_L_serverOf, rfl, ml_L_150, st_L_serverOf, ⟨Nat.le_of_ble_eq_true rfl, Nat.le_of_ble_eq_true rfl⟩⟩
theorem kw_152 {nm : String} {hh : List (Nat × Nat × Nat × Nat)} : aKV (mLw nm hh) mX7_serverOf 152 1 7 := ⟨cb_X7_serverOf, rfl, ml_L_152, iv_X7_serverOf, sl_X7_serverOf, ⟨_, _, rfl⟩, ⟨Nat.le_of_ble_eq_true rfl, Nat.le_of_ble_eq_true rfl⟩⟩
theorem kw_153 {nm : String} {hh : List (Nat × Nat × Nat × Nat)} : aKX (mLw nm hh) mL_request 153 4 := ⟨cb_L_request, rfl, ml_L_153, st_L_request, ⟨Nat.le_of_ble_eq_true rfl, Nat.le_of_ble_eq_true rfl⟩⟩
theorem kw_155 {nm : String} {hh : List (Nat × Nat × Nat × Nat)} : aKV (mLw nm hh) mX7_request 155 2 7 := ⟨cb_X7_request, rfl, ml_L_155, iv_X7_request, sl_X7_request, ⟨_, _, rfl⟩, ⟨Nat.le_of_ble_eq_true rfl, Nat.le_of_ble_eq_true rfl⟩⟩
theorem kw_156 {nm : String} {hh : List (Nat × Nat × Nat × Nat)} : aKX (mLw nm hh) mL_loadOf 156 3 := ⟨cb_L_loadOf, rfl, ml_L_156, st_L_loadOf, ⟨Nat.le_of_ble_eq_true rfl, Nat.le_of_ble_eq_true rfl⟩⟩
theorem kw_158 {nm : String} {hh : List (Nat × Nat × Nat × Nat)} : aKV (mLw nm hh) mX7_loadOf 158 1 7 := ⟨cb_X7_loadOf, rfl, ml_L_158, iv_X7_loadOf, sl_X7_loadOf, ⟨_, _, rfl⟩, ⟨Nat.le_of_ble_eq_true rfl, Nat.le_of_ble_eq_true rfl⟩⟩
theorem kw_159 {nm : String} {hh : List (Nat × Nat × Nat × Nat)} : aKX (mLw nm hh) mL_rankedServer 159 3 := ⟨cb_L_rankedServer, rfl, ml_L_159, st_L_rankedServer, ⟨Nat.le_of_ble_eq_true rfl, Nat.le_of_ble_eq_true rfl⟩⟩
theorem kw_161 {nm : String} {hh : List (Nat × Nat × Nat × Nat)} : aKV (mLw nm hh) mX7_rankedServer 161 1 7 := ⟨cb_X7_rankedServer, rfl, ml_L_161, iv_X7_rankedServer, sl_X7_rankedServer, ⟨_, _, rfl⟩, ⟨Nat.le_of_ble_eq_true rfl, Nat.le_of_ble_eq_true rfl⟩⟩
theorem kw_162 {nm : String} {hh : List (Nat × Nat × Nat × Nat)} : aKX (mLw nm hh) mL_pin 162 4 := ⟨cb_L_pin, rfl, ml_L_162, st_L_pin, ⟨Nat.le_of_ble_eq_true rfl, Nat.le_of_ble_eq_true rfl⟩⟩
theorem kw_164 {nm : String} {hh : List (Nat × Nat × Nat × Nat)} : aKV (mLw nm hh) mX7_pin 164 2 7 := ⟨cb_X7_pin, rfl, ml_L_164, iv_X7_pin, sl_X7_pin, ⟨_, _, rfl⟩, ⟨Nat.le_of_ble_eq_true rfl, Nat.le_of_ble_eq_true rfl⟩⟩
theorem kw_165 {nm : String} {hh : List (Nat × Nat × Nat × Nat)} : aKX (mLw nm hh) mL_unpin 165 3 := ⟨cb_L_unpin, rfl, ml_L_165, st_L_unpin, ⟨Nat.le_of_ble_eq_true rfl, Nat.le_of_ble_eq_true rfl⟩⟩
theorem kw_167 {nm : String} {hh : List (Nat × Nat × Nat × Nat)} : aKV (mLw nm hh) mX7_unpin 167 1 7 := ⟨cb_X7_unpin, rfl, ml_L_167, iv_X7_unpin, sl_X7_unpin, ⟨_, _, rfl⟩, ⟨Nat.le_of_ble_eq_true rfl, Nat.le_of_ble_eq_true rfl⟩⟩
theorem kw_168 {nm : String} {hh : List (Nat × Nat × Nat × Nat)} : aKX (mLw nm hh) mL_pinHottest 168 2 := ⟨cb_L_pinHottest, rfl, ml_L_168, st_L_pinHottest, ⟨Nat.le_of_ble_eq_true rfl, Nat.le_of_ble_eq_true rfl⟩⟩
theorem kw_171 {nm : String} {hh : List (Nat × Nat × Nat × Nat)} : aKV (mLw nm hh) mX7_pinHottest 171 0 7 := ⟨cb_X7_pinHottest, rfl, ml_L_171, iv_X7_pinHottest, sl_X7_pinHottest, ⟨_, _, rfl⟩, ⟨Nat.le_of_ble_eq_true rfl, Nat.le_of_ble_eq_true rfl⟩⟩
theorem kw_172 {nm : String} {hh : List (Nat × Nat × Nat × Nat)} : aKV (mLw nm hh) mX6_trackedKeys 172 0 6 := ⟨cb_X6_trackedKeys, rfl, ml_L_172, iv_X6_trackedKeys, sl_X6_trackedKeys, ⟨_, _, rfl⟩, ⟨Nat.le_of_ble_eq_true rfl, Nat.le_of_ble_eq_true rfl⟩⟩
theorem kw_175 {nm : String} {hh : List (Nat × Nat × Nat × Nat)} : aKV (mLw nm hh) mX7_trackedKeys 175 0 7 := ⟨cb_X7_trackedKeys, rfl, ml_L_175, iv_X7_trackedKeys, sl_X7_trackedKeys, ⟨_, _, rfl⟩, ⟨Nat.le_of_ble_eq_true rfl, Nat.le_of_ble_eq_true rfl⟩⟩
theorem kw_176 {nm : String} {hh : List (Nat × Nat × Nat × Nat)} : aKX (mLw nm hh) mL_hotKey 176 3 := ⟨cb_L_hotKey, rfl, ml_L_176, st_L_hotKey, ⟨Nat.le_of_ble_eq_true rfl, Nat.le_of_ble_eq_true rfl⟩⟩
theorem kw_178 {nm : String} {hh : List (Nat × Nat × Nat × Nat)} : aKV (mLw nm hh) mX7_hotKey 178 1 7 := ⟨cb_X7_hotKey, rfl, ml_L_178, iv_X7_hotKey, sl_X7_hotKey, ⟨_, _, rfl⟩, ⟨Nat.le_of_ble_eq_true rfl, Nat.le_of_ble_eq_true rfl⟩⟩
theorem kw_179 {nm : String} {hh : List (Nat × Nat × Nat × Nat)} : aKX (mLw nm hh) mL_hotCount 179 3 := ⟨cb_L_hotCount, rfl, ml_L_179, st_L_hotCount, ⟨Nat.le_of_ble_eq_true rfl, Nat.le_of_ble_eq_true rfl⟩⟩
theorem kw_181 {nm : String} {hh : List (Nat × Nat × Nat × Nat)} : aKV (mLw nm hh) mX7_hotCount 181 1 7 := ⟨cb_X7_hotCount, rfl, ml_L_181, iv_X7_hotCount, sl_X7_hotCount, ⟨_, _, rfl⟩, ⟨Nat.le_of_ble_eq_true rfl, Nat.le_of_ble_eq_true rfl⟩⟩
theorem kw_182 {nm : String} {hh : List (Nat × Nat × Nat × Nat)} : aKX (mLw nm hh) mL_hotError 182 3 := ⟨cb_L_hotError, rfl, ml_L_182, st_L_hotError, ⟨Nat.le_of_ble_eq_true rfl, Nat.le_of_ble_eq_true rfl⟩⟩
theorem kw_184 {nm : String} {hh : List (Nat × Nat × Nat × Nat)} : aKV (mLw nm hh) mX7_hotError 184 1 7 := ⟨cb_X7_hotError, rfl, ml_L_184, iv_X7_hotError, sl_X7_hotError, ⟨_, _, rfl⟩, ⟨Nat.le_of_ble_eq_true rfl, Nat.le_of_ble_eq_true rfl⟩⟩
theorem kw_185 {nm : String} {hh : List (Nat × Nat × Nat × Nat)} : aKX (mLw nm hh) mL_undo 185 2 := ⟨cb_L_undo, rfl, ml_L_185, st_L_undo, ⟨Nat.le_of_ble_eq_true rfl, Nat.le_of_ble_eq_true rfl⟩⟩
theorem kw_187 {nm : String} {hh : List (Nat × Nat × Nat × Nat)} : aKV (mLw nm hh) mX7_undo 187 0 7 := ⟨cb_X7_undo, rfl, ml_L_187, iv_X7_undo, sl_X7_undo, ⟨_, _, rfl⟩, ⟨Nat.le_of_ble_eq_true rfl, Nat.le_of_ble_eq_true rfl⟩⟩
section LOP
variable {l : Launch} {X : aX} {nm : String} {hh : List (Nat × Nat × Nat × Nat)} {G : State → Array Value → List Frame → (Nat → Prop) → (Nat → Nat) → State → Prop} {kc ks i : Nat} {hx hm hx' hm' : List aCell} {o o' : Nat → Int64} {d d' : Nat → UInt64} {fs gs gs' : List Value}
theorem w_reset (hi : i + 2 < X.2.2.2.1 1) (hL : X.2.2.2.1 1 ≤ 1536) (hkc : kc ≤ 600000) (hks : ks ≤ 7000000) {c : Int32} {rb : Int32} (hC : aWr l X mL_reset [0, 55] [.ref 0, .int (X.2.2.2.2 1 (i + 1)), .ref 55] (hx ++ [aLa 1 o]) (some (.int c)) (hx' ++ [aLa 1 o'])) (hM : aWr l X mX7_reset is19 [.ref 0, .int (X.2.2.2.2 1 (i + 1))] hm (some (.int rb)) hm') (hT : aRd l X mX7_thrown is19 [.ref 0] hm' (.int c)) (ha : c = 0 → o' 0 = rb.toInt64) (b : aLk hx hm) (b' : aLk hx' hm) (b'' : aLk hx' hm') (g0 : hm[0]? = some (aOb 7 gs)) (g0' : hm'[0]? = some (aOb 7 gs')) (nx : aJ l X (mLw nm hh) ([], G) (kc + 8) (ks + 64) 1581 (LV i) [] (aLw hx' hm' (aLa 1 o') (aDa 1 d))) : aJ l X (mLw nm hh) ([], G) kc ks 168 (LV i) [] (aLw hx hm (aLa 1 o) (aDa 1 d)) := by
  have he1 : (nI i + 1).toNatClampNeg = i + 1 := by rw [nI_1]; exact nI_clamp (by omega)
  have he2 : (nI i + 2).toNatClampNeg = i + 2 := by rw [show nI i + 2 = nI (i + 2) from nI_add i 2]; exact nI_clamp (by omega)
  have hi1 : vp_in (nI i + 1) (X.2.2.2.1 1) := by rw [nI_1]; exact vp_in_nI (by omega) (by omega)
  have hi2 : vp_in (nI i + 2) (X.2.2.2.1 1) := by rw [show nI i + 2 = nI (i + 2) from nI_add i 2]; exact vp_in_nI (by omega) (by omega)
  refine a_aload_n dL_law_168 rfl ?_
  refine a_xload_n dL_law_169 rfl ?_
  refine a_iload dL_law_170 rfl ?_
  refine a_iconst 1 dL_law_172 (by decide) ?_
  refine a_iadd dL_law_173 ?_
  refine a_xald (by decide) dL_law_174 hi1 ?_
  rw [he1]
  refine a_aload_n dL_law_175 rfl ?_
  refine lw_callA kw_91 hC dL_law_176 rfl rfl rfl rfl (Nat.le_of_ble_eq_true rfl) ⟨by show kc + 1 ≤ 631930; omega, by show ks + 6 ≤ 7200314; omega⟩ b b' ?_
  refine a_istore dL_law_179 (Nat.le_of_ble_eq_true rfl) rfl ?_
  refine a_aload_n dL_law_181 rfl ?_
  refine a_xload_n dL_law_182 rfl ?_
  refine a_iload dL_law_183 rfl ?_
  refine a_iconst 1 dL_law_185 (by decide) ?_
  refine a_iadd dL_law_186 ?_
  refine a_xald (by decide) dL_law_187 hi1 ?_
  rw [he1]
  refine lw_callM kw_96 hM dL_law_188 rfl g0 rfl rfl rfl (Nat.le_of_ble_eq_true rfl) ⟨by show kc + 1 ≤ 631930; omega, by show ks + 6 ≤ 7200314; omega⟩ b' b'' (fun _ => rfl) ?_
  refine a_istore dL_law_191 (Nat.le_of_ble_eq_true rfl) rfl ?_
  refine a_aload_n dL_law_193 rfl ?_
  refine lw_callM kw_97 hT dL_law_194 rfl g0' rfl rfl rfl (Nat.le_of_ble_eq_true rfl) ⟨by show kc + 1 ≤ 631930; omega, by show ks + 6 ≤ 7200314; omega⟩ b'' b'' (fun _ => rfl) ?_
  refine a_iload dL_law_197 rfl ?_
  refine a_icmp_eq 204 dL_law_199 (by decide) (fun _ => ?_) (fun z => absurd rfl z)
  refine a_iload dL_law_204 rfl ?_
  refine a_if_ne 221 dL_law_206 (by decide) (fun c206 => ?_) (fun c206 => ?_)
  · refine a_goto 1581 dL_law_221 (by decide) ?_
    refine a_drop 6 ?_
    refine a_drop 7 ?_
    exact a_wid (by show kc + 1 ≤ kc + 8; omega) (by show ks + 6 ≤ ks + 64; omega) nx
  · have ha0 := ha c206
    refine a_aload_n dL_law_209 rfl ?_
    refine a_iconst 0 dL_law_210 (by decide) ?_
    refine a_lald dL_law_211 (aLw_74 b'') one_in ?_
    refine a_iload dL_law_212 rfl ?_
    refine a_i2l dL_law_214 ?_
    refine a_lcmp dL_law_215 ?_
    refine a_if_eq 221 dL_law_216 (by decide) (fun _ => ?_) (fun z => absurd ((lg_cmp_eq _ _).mpr ha0) z)
    refine a_goto 1581 dL_law_221 (by decide) ?_
    refine a_drop 6 ?_
    refine a_drop 7 ?_
    exact a_wid (by show kc + 1 ≤ kc + 8; omega) (by show ks + 6 ≤ ks + 64; omega) nx
theorem w_serverAt (hi : i + 2 < X.2.2.2.1 1) (hL : X.2.2.2.1 1 ≤ 1536) (hkc : kc ≤ 600000) (hks : ks ≤ 7000000) {c : Int32} {rb : Int32} (hC : aWr l X mL_serverAt [0, 55] [.ref 0, .int (X.2.2.2.2 1 (i + 1)), .ref 55] (hx ++ [aLa 1 o]) (some (.int c)) (hx' ++ [aLa 1 o'])) (hM : aWr l X mX7_serverAt is19 [.ref 0, .int (X.2.2.2.2 1 (i + 1))] hm (some (.int rb)) hm') (hT : aRd l X mX7_thrown is19 [.ref 0] hm' (.int c)) (ha : c = 0 → o' 0 = rb.toInt64) (b : aLk hx hm) (b' : aLk hx' hm) (b'' : aLk hx' hm') (g0 : hm[0]? = some (aOb 7 gs)) (g0' : hm'[0]? = some (aOb 7 gs')) (nx : aJ l X (mLw nm hh) ([], G) (kc + 8) (ks + 64) 1581 (LV i) [] (aLw hx' hm' (aLa 1 o') (aDa 1 d))) : aJ l X (mLw nm hh) ([], G) kc ks 224 (LV i) [] (aLw hx hm (aLa 1 o) (aDa 1 d)) := by
  have he1 : (nI i + 1).toNatClampNeg = i + 1 := by rw [nI_1]; exact nI_clamp (by omega)
  have he2 : (nI i + 2).toNatClampNeg = i + 2 := by rw [show nI i + 2 = nI (i + 2) from nI_add i 2]; exact nI_clamp (by omega)
  have hi1 : vp_in (nI i + 1) (X.2.2.2.1 1) := by rw [nI_1]; exact vp_in_nI (by omega) (by omega)
  have hi2 : vp_in (nI i + 2) (X.2.2.2.1 1) := by rw [show nI i + 2 = nI (i + 2) from nI_add i 2]; exact vp_in_nI (by omega) (by omega)
  refine a_aload_n dL_law_224 rfl ?_
  refine a_xload_n dL_law_225 rfl ?_
  refine a_iload dL_law_226 rfl ?_
  refine a_iconst 1 dL_law_228 (by decide) ?_
  refine a_iadd dL_law_229 ?_
  refine a_xald (by decide) dL_law_230 hi1 ?_
  rw [he1]
  refine a_aload_n dL_law_231 rfl ?_
  refine lw_callA kw_100 hC dL_law_232 rfl rfl rfl rfl (Nat.le_of_ble_eq_true rfl) ⟨by show kc + 1 ≤ 631930; omega, by show ks + 6 ≤ 7200314; omega⟩ b b' ?_
  refine a_istore dL_law_235 (Nat.le_of_ble_eq_true rfl) rfl ?_
  refine a_aload_n dL_law_237 rfl ?_
  refine a_xload_n dL_law_238 rfl ?_
  refine a_iload dL_law_239 rfl ?_
  refine a_iconst 1 dL_law_241 (by decide) ?_
  refine a_iadd dL_law_242 ?_
  refine a_xald (by decide) dL_law_243 hi1 ?_
  rw [he1]
  refine lw_callM kw_102 hM dL_law_244 rfl g0 rfl rfl rfl (Nat.le_of_ble_eq_true rfl) ⟨by show kc + 1 ≤ 631930; omega, by show ks + 6 ≤ 7200314; omega⟩ b' b'' (fun _ => rfl) ?_
  refine a_istore dL_law_247 (Nat.le_of_ble_eq_true rfl) rfl ?_
  refine a_aload_n dL_law_249 rfl ?_
  refine lw_callM kw_97 hT dL_law_250 rfl g0' rfl rfl rfl (Nat.le_of_ble_eq_true rfl) ⟨by show kc + 1 ≤ 631930; omega, by show ks + 6 ≤ 7200314; omega⟩ b'' b'' (fun _ => rfl) ?_
  refine a_iload dL_law_253 rfl ?_
  refine a_icmp_eq 260 dL_law_255 (by decide) (fun _ => ?_) (fun z => absurd rfl z)
  refine a_iload dL_law_260 rfl ?_
  refine a_if_ne 277 dL_law_262 (by decide) (fun c262 => ?_) (fun c262 => ?_)
  · refine a_goto 1581 dL_law_277 (by decide) ?_
    refine a_drop 6 ?_
    refine a_drop 7 ?_
    exact a_wid (by show kc + 1 ≤ kc + 8; omega) (by show ks + 6 ≤ ks + 64; omega) nx
  · have ha0 := ha c262
    refine a_aload_n dL_law_265 rfl ?_
    refine a_iconst 0 dL_law_266 (by decide) ?_
    refine a_lald dL_law_267 (aLw_74 b'') one_in ?_
    refine a_iload dL_law_268 rfl ?_
    refine a_i2l dL_law_270 ?_
    refine a_lcmp dL_law_271 ?_
    refine a_if_eq 277 dL_law_272 (by decide) (fun _ => ?_) (fun z => absurd ((lg_cmp_eq _ _).mpr ha0) z)
    refine a_goto 1581 dL_law_277 (by decide) ?_
    refine a_drop 6 ?_
    refine a_drop 7 ?_
    exact a_wid (by show kc + 1 ≤ kc + 8; omega) (by show ks + 6 ≤ ks + 64; omega) nx
theorem w_disruption (hkc : kc ≤ 600000) (hks : ks ≤ 7000000) {x : Int32} (hC : aRd l X mX6_disruption [0] [.ref 0] hx (.int x)) (hM : aWr l X mX7_disruption is19 [.ref 0] hm (some (.int x)) hm') (b : aLk hx hm) (b'' : aLk hx hm') (f0 : hx[0]? = some (aOb 6 fs)) (g0 : hm[0]? = some (aOb 7 gs)) (nx : aJ l X (mLw nm hh) ([], G) (kc + 8) (ks + 64) 1581 (LV i) [] (aLw hx hm' (aLa 1 o) (aDa 1 d))) : aJ l X (mLw nm hh) ([], G) kc ks 280 (LV i) [] (aLw hx hm (aLa 1 o) (aDa 1 d)) := by
  refine a_aload_n dL_law_280 rfl ?_
  refine lw_callC kw_103 hC dL_law_281 rfl f0 rfl rfl rfl (Nat.le_of_ble_eq_true rfl) ⟨by show kc + 0 ≤ 631930; omega, by show ks + 0 ≤ 7200314; omega⟩ b (fun _ => rfl) ?_
  refine a_aload_n dL_law_284 rfl ?_
  refine lw_callM kw_106 hM dL_law_285 rfl g0 rfl rfl rfl (Nat.le_of_ble_eq_true rfl) ⟨by show kc + 0 ≤ 631930; omega, by show ks + 0 ≤ 7200314; omega⟩ b b'' (fun _ => rfl) ?_
  refine a_icmp_eq 1581 dL_law_288 (by decide) (fun _ => ?_) (fun z => absurd rfl z)
  exact a_wid (by show kc + 0 ≤ kc + 8; omega) (by show ks + 0 ≤ ks + 64; omega) nx
theorem w_forcedDisruption (hkc : kc ≤ 600000) (hks : ks ≤ 7000000) {x : Int32} (hC : aRd l X mX6_forcedDisruption [0] [.ref 0] hx (.int x)) (hM : aWr l X mX7_forcedDisruption is19 [.ref 0] hm (some (.int x)) hm') (b : aLk hx hm) (b'' : aLk hx hm') (f0 : hx[0]? = some (aOb 6 fs)) (g0 : hm[0]? = some (aOb 7 gs)) (nx : aJ l X (mLw nm hh) ([], G) (kc + 8) (ks + 64) 1581 (LV i) [] (aLw hx hm' (aLa 1 o) (aDa 1 d))) : aJ l X (mLw nm hh) ([], G) kc ks 293 (LV i) [] (aLw hx hm (aLa 1 o) (aDa 1 d)) := by
  refine a_aload_n dL_law_293 rfl ?_
  refine lw_callC kw_107 hC dL_law_294 rfl f0 rfl rfl rfl (Nat.le_of_ble_eq_true rfl) ⟨by show kc + 0 ≤ 631930; omega, by show ks + 0 ≤ 7200314; omega⟩ b (fun _ => rfl) ?_
  refine a_aload_n dL_law_297 rfl ?_
  refine lw_callM kw_110 hM dL_law_298 rfl g0 rfl rfl rfl (Nat.le_of_ble_eq_true rfl) ⟨by show kc + 0 ≤ 631930; omega, by show ks + 0 ≤ 7200314; omega⟩ b b'' (fun _ => rfl) ?_
  refine a_icmp_eq 1581 dL_law_301 (by decide) (fun _ => ?_) (fun z => absurd rfl z)
  exact a_wid (by show kc + 0 ≤ kc + 8; omega) (by show ks + 0 ≤ ks + 64; omega) nx
theorem w_imbalance (hkc : kc ≤ 600000) (hks : ks ≤ 7000000) {x : UInt64} (hv : vf_n64 x) (hC : aRd l X mX6_imbalance [0] [.ref 0] hx (.double x)) (hM : aWr l X mX7_imbalance is19 [.ref 0] hm (some (.double x)) hm') (b : aLk hx hm) (b'' : aLk hx hm') (f0 : hx[0]? = some (aOb 6 fs)) (g0 : hm[0]? = some (aOb 7 gs)) (nx : aJ l X (mLw nm hh) ([], G) (kc + 8) (ks + 64) 1581 (LV i) [] (aLw hx hm' (aLa 1 o) (aDa 1 d))) : aJ l X (mLw nm hh) ([], G) kc ks 306 (LV i) [] (aLw hx hm (aLa 1 o) (aDa 1 d)) := by
  refine a_aload_n dL_law_306 rfl ?_
  refine lw_callC kw_111 hC dL_law_307 rfl f0 rfl rfl rfl (Nat.le_of_ble_eq_true rfl) ⟨by show kc + 0 ≤ 631930; omega, by show ks + 0 ≤ 7200314; omega⟩ b (fun _ => rfl) ?_
  refine a_dstore dL_law_310 (Nat.le_of_ble_eq_true rfl) rfl ?_
  refine a_aload_n dL_law_312 rfl ?_
  refine lw_callM kw_115 hM dL_law_313 rfl g0 rfl rfl rfl (Nat.le_of_ble_eq_true rfl) ⟨by show kc + 0 ≤ 631930; omega, by show ks + 0 ≤ 7200314; omega⟩ b b'' (fun _ => rfl) ?_
  refine a_dstore dL_law_316 (Nat.le_of_ble_eq_true rfl) rfl ?_
  refine a_dload dL_law_318 rfl ?_
  refine a_dload dL_law_320 rfl ?_
  refine a_dcmp dL_law_322 ?_
  refine a_if_eq 344 dL_law_323 (by decide) (fun _ => ?_) (fun z => absurd (dcmp_same hv) z)
  refine a_goto 1581 dL_law_344 (by decide) ?_
  refine a_drop 6 ?_
  refine a_drop 8 ?_
  exact a_wid (by show kc + 0 ≤ kc + 8; omega) (by show ks + 0 ≤ ks + 64; omega) nx
theorem w_addServer (hi : i + 2 < X.2.2.2.1 1) (hL : X.2.2.2.1 1 ≤ 1536) (hkc : kc ≤ 600000) (hks : ks ≤ 7000000) {c : Int32} {rb : Int32} (hC : aWr l X mL_addServer [0, 55] [.ref 0, .int (X.2.2.2.2 1 (i + 1)), .int (X.2.2.2.2 1 (i + 2)), .ref 55] (hx ++ [aLa 1 o]) (some (.int c)) (hx' ++ [aLa 1 o'])) (hM : aWr l X mX7_addServer is19 [.ref 0, .int (X.2.2.2.2 1 (i + 1)), .int (X.2.2.2.2 1 (i + 2))] hm (some (.int rb)) hm') (hT : aRd l X mX7_thrown is19 [.ref 0] hm' (.int c)) (ha : c = 0 → o' 0 = rb.toInt64) (b : aLk hx hm) (b' : aLk hx' hm) (b'' : aLk hx' hm') (g0 : hm[0]? = some (aOb 7 gs)) (g0' : hm'[0]? = some (aOb 7 gs')) (nx : aJ l X (mLw nm hh) ([], G) (kc + 8) (ks + 64) 1581 (LV i) [] (aLw hx' hm' (aLa 1 o') (aDa 1 d))) : aJ l X (mLw nm hh) ([], G) kc ks 347 (LV i) [] (aLw hx hm (aLa 1 o) (aDa 1 d)) := by
  have he1 : (nI i + 1).toNatClampNeg = i + 1 := by rw [nI_1]; exact nI_clamp (by omega)
  have he2 : (nI i + 2).toNatClampNeg = i + 2 := by rw [show nI i + 2 = nI (i + 2) from nI_add i 2]; exact nI_clamp (by omega)
  have hi1 : vp_in (nI i + 1) (X.2.2.2.1 1) := by rw [nI_1]; exact vp_in_nI (by omega) (by omega)
  have hi2 : vp_in (nI i + 2) (X.2.2.2.1 1) := by rw [show nI i + 2 = nI (i + 2) from nI_add i 2]; exact vp_in_nI (by omega) (by omega)
  refine a_aload_n dL_law_347 rfl ?_
  refine a_xload_n dL_law_348 rfl ?_
  refine a_iload dL_law_349 rfl ?_
  refine a_iconst 1 dL_law_351 (by decide) ?_
  refine a_iadd dL_law_352 ?_
  refine a_xald (by decide) dL_law_353 hi1 ?_
  rw [he1]
  refine a_xload_n dL_law_354 rfl ?_
  refine a_iload dL_law_355 rfl ?_
  refine a_iconst 2 dL_law_357 (by decide) ?_
  refine a_iadd dL_law_358 ?_
  refine a_xald (by decide) dL_law_359 hi2 ?_
  rw [he2]
  refine a_aload_n dL_law_360 rfl ?_
  refine lw_callA kw_116 hC dL_law_361 rfl rfl rfl rfl (Nat.le_of_ble_eq_true rfl) ⟨by show kc + 4 ≤ 631930; omega, by show ks + 24 ≤ 7200314; omega⟩ b b' ?_
  refine a_istore dL_law_364 (Nat.le_of_ble_eq_true rfl) rfl ?_
  refine a_aload_n dL_law_366 rfl ?_
  refine a_xload_n dL_law_367 rfl ?_
  refine a_iload dL_law_368 rfl ?_
  refine a_iconst 1 dL_law_370 (by decide) ?_
  refine a_iadd dL_law_371 ?_
  refine a_xald (by decide) dL_law_372 hi1 ?_
  rw [he1]
  refine a_xload_n dL_law_373 rfl ?_
  refine a_iload dL_law_374 rfl ?_
  refine a_iconst 2 dL_law_376 (by decide) ?_
  refine a_iadd dL_law_377 ?_
  refine a_xald (by decide) dL_law_378 hi2 ?_
  rw [he2]
  refine lw_callM kw_119 hM dL_law_379 rfl g0 rfl rfl rfl (Nat.le_of_ble_eq_true rfl) ⟨by show kc + 4 ≤ 631930; omega, by show ks + 24 ≤ 7200314; omega⟩ b' b'' (fun _ => rfl) ?_
  refine a_istore dL_law_382 (Nat.le_of_ble_eq_true rfl) rfl ?_
  refine a_aload_n dL_law_384 rfl ?_
  refine lw_callM kw_97 hT dL_law_385 rfl g0' rfl rfl rfl (Nat.le_of_ble_eq_true rfl) ⟨by show kc + 4 ≤ 631930; omega, by show ks + 24 ≤ 7200314; omega⟩ b'' b'' (fun _ => rfl) ?_
  refine a_iload dL_law_388 rfl ?_
  refine a_icmp_eq 395 dL_law_390 (by decide) (fun _ => ?_) (fun z => absurd rfl z)
  refine a_iload dL_law_395 rfl ?_
  refine a_if_ne 412 dL_law_397 (by decide) (fun c397 => ?_) (fun c397 => ?_)
  · refine a_goto 1581 dL_law_412 (by decide) ?_
    refine a_drop 6 ?_
    refine a_drop 7 ?_
    exact a_wid (by show kc + 4 ≤ kc + 8; omega) (by show ks + 24 ≤ ks + 64; omega) nx
  · have ha0 := ha c397
    refine a_aload_n dL_law_400 rfl ?_
    refine a_iconst 0 dL_law_401 (by decide) ?_
    refine a_lald dL_law_402 (aLw_74 b'') one_in ?_
    refine a_iload dL_law_403 rfl ?_
    refine a_i2l dL_law_405 ?_
    refine a_lcmp dL_law_406 ?_
    refine a_if_eq 412 dL_law_407 (by decide) (fun _ => ?_) (fun z => absurd ((lg_cmp_eq _ _).mpr ha0) z)
    refine a_goto 1581 dL_law_412 (by decide) ?_
    refine a_drop 6 ?_
    refine a_drop 7 ?_
    exact a_wid (by show kc + 4 ≤ kc + 8; omega) (by show ks + 24 ≤ ks + 64; omega) nx
theorem w_removeServer (hi : i + 2 < X.2.2.2.1 1) (hL : X.2.2.2.1 1 ≤ 1536) (hkc : kc ≤ 600000) (hks : ks ≤ 7000000) {c : Int32} {rb : Int64} (hC : aWr l X mL_removeServer [0, 55] [.ref 0, .int (X.2.2.2.2 1 (i + 1)), .ref 55] (hx ++ [aLa 1 o]) (some (.int c)) (hx' ++ [aLa 1 o'])) (hM : aWr l X mX7_removeServer is19 [.ref 0, .int (X.2.2.2.2 1 (i + 1))] hm (some (.long rb)) hm') (hT : aRd l X mX7_thrown is19 [.ref 0] hm' (.int c)) (ha : c = 0 → o' 0 = rb) (b : aLk hx hm) (b' : aLk hx' hm) (b'' : aLk hx' hm') (g0 : hm[0]? = some (aOb 7 gs)) (g0' : hm'[0]? = some (aOb 7 gs')) (nx : aJ l X (mLw nm hh) ([], G) (kc + 8) (ks + 64) 1581 (LV i) [] (aLw hx' hm' (aLa 1 o') (aDa 1 d))) : aJ l X (mLw nm hh) ([], G) kc ks 415 (LV i) [] (aLw hx hm (aLa 1 o) (aDa 1 d)) := by
  have he1 : (nI i + 1).toNatClampNeg = i + 1 := by rw [nI_1]; exact nI_clamp (by omega)
  have he2 : (nI i + 2).toNatClampNeg = i + 2 := by rw [show nI i + 2 = nI (i + 2) from nI_add i 2]; exact nI_clamp (by omega)
  have hi1 : vp_in (nI i + 1) (X.2.2.2.1 1) := by rw [nI_1]; exact vp_in_nI (by omega) (by omega)
  have hi2 : vp_in (nI i + 2) (X.2.2.2.1 1) := by rw [show nI i + 2 = nI (i + 2) from nI_add i 2]; exact vp_in_nI (by omega) (by omega)
  refine a_aload_n dL_law_415 rfl ?_
  refine a_xload_n dL_law_416 rfl ?_
  refine a_iload dL_law_417 rfl ?_
  refine a_iconst 1 dL_law_419 (by decide) ?_
  refine a_iadd dL_law_420 ?_
  refine a_xald (by decide) dL_law_421 hi1 ?_
  rw [he1]
  refine a_aload_n dL_law_422 rfl ?_
  refine lw_callA kw_120 hC dL_law_423 rfl rfl rfl rfl (Nat.le_of_ble_eq_true rfl) ⟨by show kc + 1 ≤ 631930; omega, by show ks + 6 ≤ 7200314; omega⟩ b b' ?_
  refine a_istore dL_law_426 (Nat.le_of_ble_eq_true rfl) rfl ?_
  refine a_aload_n dL_law_428 rfl ?_
  refine a_xload_n dL_law_429 rfl ?_
  refine a_iload dL_law_430 rfl ?_
  refine a_iconst 1 dL_law_432 (by decide) ?_
  refine a_iadd dL_law_433 ?_
  refine a_xald (by decide) dL_law_434 hi1 ?_
  rw [he1]
  refine lw_callM kw_122 hM dL_law_435 rfl g0 rfl rfl rfl (Nat.le_of_ble_eq_true rfl) ⟨by show kc + 1 ≤ 631930; omega, by show ks + 6 ≤ 7200314; omega⟩ b' b'' (fun _ => rfl) ?_
  refine a_lstore dL_law_438 (Nat.le_of_ble_eq_true rfl) rfl ?_
  refine a_aload_n dL_law_440 rfl ?_
  refine lw_callM kw_97 hT dL_law_441 rfl g0' rfl rfl rfl (Nat.le_of_ble_eq_true rfl) ⟨by show kc + 1 ≤ 631930; omega, by show ks + 6 ≤ 7200314; omega⟩ b'' b'' (fun _ => rfl) ?_
  refine a_iload dL_law_444 rfl ?_
  refine a_icmp_eq 451 dL_law_446 (by decide) (fun _ => ?_) (fun z => absurd rfl z)
  refine a_iload dL_law_451 rfl ?_
  refine a_if_ne 467 dL_law_453 (by decide) (fun c453 => ?_) (fun c453 => ?_)
  · refine a_goto 1581 dL_law_467 (by decide) ?_
    refine a_drop 6 ?_
    refine a_drop 7 ?_
    exact a_wid (by show kc + 1 ≤ kc + 8; omega) (by show ks + 6 ≤ ks + 64; omega) nx
  · have ha0 := ha c453
    refine a_aload_n dL_law_456 rfl ?_
    refine a_iconst 0 dL_law_457 (by decide) ?_
    refine a_lald dL_law_458 (aLw_74 b'') one_in ?_
    refine a_lload dL_law_459 rfl ?_
    refine a_lcmp dL_law_461 ?_
    refine a_if_eq 467 dL_law_462 (by decide) (fun _ => ?_) (fun z => absurd ((lg_cmp_eq _ _).mpr ha0) z)
    refine a_goto 1581 dL_law_467 (by decide) ?_
    refine a_drop 6 ?_
    refine a_drop 7 ?_
    exact a_wid (by show kc + 1 ≤ kc + 8; omega) (by show ks + 6 ≤ ks + 64; omega) nx
theorem w_setWeight (hi : i + 2 < X.2.2.2.1 1) (hL : X.2.2.2.1 1 ≤ 1536) (hkc : kc ≤ 600000) (hks : ks ≤ 7000000) {c : Int32} {rb : Int32} (hC : aWr l X mL_setWeight [0, 55] [.ref 0, .int (X.2.2.2.2 1 (i + 1)), .int (X.2.2.2.2 1 (i + 2)), .ref 55] (hx ++ [aLa 1 o]) (some (.int c)) (hx' ++ [aLa 1 o'])) (hM : aWr l X mX7_setWeight is19 [.ref 0, .int (X.2.2.2.2 1 (i + 1)), .int (X.2.2.2.2 1 (i + 2))] hm (some (.int rb)) hm') (hT : aRd l X mX7_thrown is19 [.ref 0] hm' (.int c)) (ha : c = 0 → o' 0 = rb.toInt64) (b : aLk hx hm) (b' : aLk hx' hm) (b'' : aLk hx' hm') (g0 : hm[0]? = some (aOb 7 gs)) (g0' : hm'[0]? = some (aOb 7 gs')) (nx : aJ l X (mLw nm hh) ([], G) (kc + 8) (ks + 64) 1581 (LV i) [] (aLw hx' hm' (aLa 1 o') (aDa 1 d))) : aJ l X (mLw nm hh) ([], G) kc ks 470 (LV i) [] (aLw hx hm (aLa 1 o) (aDa 1 d)) := by
  have he1 : (nI i + 1).toNatClampNeg = i + 1 := by rw [nI_1]; exact nI_clamp (by omega)
  have he2 : (nI i + 2).toNatClampNeg = i + 2 := by rw [show nI i + 2 = nI (i + 2) from nI_add i 2]; exact nI_clamp (by omega)
  have hi1 : vp_in (nI i + 1) (X.2.2.2.1 1) := by rw [nI_1]; exact vp_in_nI (by omega) (by omega)
  have hi2 : vp_in (nI i + 2) (X.2.2.2.1 1) := by rw [show nI i + 2 = nI (i + 2) from nI_add i 2]; exact vp_in_nI (by omega) (by omega)
  refine a_aload_n dL_law_470 rfl ?_
  refine a_xload_n dL_law_471 rfl ?_
  refine a_iload dL_law_472 rfl ?_
  refine a_iconst 1 dL_law_474 (by decide) ?_
  refine a_iadd dL_law_475 ?_
  refine a_xald (by decide) dL_law_476 hi1 ?_
  rw [he1]
  refine a_xload_n dL_law_477 rfl ?_
  refine a_iload dL_law_478 rfl ?_
  refine a_iconst 2 dL_law_480 (by decide) ?_
  refine a_iadd dL_law_481 ?_
  refine a_xald (by decide) dL_law_482 hi2 ?_
  rw [he2]
  refine a_aload_n dL_law_483 rfl ?_
  refine lw_callA kw_123 hC dL_law_484 rfl rfl rfl rfl (Nat.le_of_ble_eq_true rfl) ⟨by show kc + 2 ≤ 631930; omega, by show ks + 12 ≤ 7200314; omega⟩ b b' ?_
  refine a_istore dL_law_487 (Nat.le_of_ble_eq_true rfl) rfl ?_
  refine a_aload_n dL_law_489 rfl ?_
  refine a_xload_n dL_law_490 rfl ?_
  refine a_iload dL_law_491 rfl ?_
  refine a_iconst 1 dL_law_493 (by decide) ?_
  refine a_iadd dL_law_494 ?_
  refine a_xald (by decide) dL_law_495 hi1 ?_
  rw [he1]
  refine a_xload_n dL_law_496 rfl ?_
  refine a_iload dL_law_497 rfl ?_
  refine a_iconst 2 dL_law_499 (by decide) ?_
  refine a_iadd dL_law_500 ?_
  refine a_xald (by decide) dL_law_501 hi2 ?_
  rw [he2]
  refine lw_callM kw_125 hM dL_law_502 rfl g0 rfl rfl rfl (Nat.le_of_ble_eq_true rfl) ⟨by show kc + 2 ≤ 631930; omega, by show ks + 12 ≤ 7200314; omega⟩ b' b'' (fun _ => rfl) ?_
  refine a_istore dL_law_505 (Nat.le_of_ble_eq_true rfl) rfl ?_
  refine a_aload_n dL_law_507 rfl ?_
  refine lw_callM kw_97 hT dL_law_508 rfl g0' rfl rfl rfl (Nat.le_of_ble_eq_true rfl) ⟨by show kc + 2 ≤ 631930; omega, by show ks + 12 ≤ 7200314; omega⟩ b'' b'' (fun _ => rfl) ?_
  refine a_iload dL_law_511 rfl ?_
  refine a_icmp_eq 518 dL_law_513 (by decide) (fun _ => ?_) (fun z => absurd rfl z)
  refine a_iload dL_law_518 rfl ?_
  refine a_if_ne 535 dL_law_520 (by decide) (fun c520 => ?_) (fun c520 => ?_)
  · refine a_goto 1581 dL_law_535 (by decide) ?_
    refine a_drop 6 ?_
    refine a_drop 7 ?_
    exact a_wid (by show kc + 2 ≤ kc + 8; omega) (by show ks + 12 ≤ ks + 64; omega) nx
  · have ha0 := ha c520
    refine a_aload_n dL_law_523 rfl ?_
    refine a_iconst 0 dL_law_524 (by decide) ?_
    refine a_lald dL_law_525 (aLw_74 b'') one_in ?_
    refine a_iload dL_law_526 rfl ?_
    refine a_i2l dL_law_528 ?_
    refine a_lcmp dL_law_529 ?_
    refine a_if_eq 535 dL_law_530 (by decide) (fun _ => ?_) (fun z => absurd ((lg_cmp_eq _ _).mpr ha0) z)
    refine a_goto 1581 dL_law_535 (by decide) ?_
    refine a_drop 6 ?_
    refine a_drop 7 ?_
    exact a_wid (by show kc + 2 ≤ kc + 8; omega) (by show ks + 12 ≤ ks + 64; omega) nx
theorem w_setUp (hi : i + 2 < X.2.2.2.1 1) (hL : X.2.2.2.1 1 ≤ 1536) (hkc : kc ≤ 600000) (hks : ks ≤ 7000000) {up : Bool} (hup : up = decide (¬ X.2.2.2.2 1 (i + 2) = 0)) {c : Int32} {rb : Bool} (hC : aWr l X mL_setUp [0, 55] [.ref 0, .int (X.2.2.2.2 1 (i + 1)), .int (bI up), .ref 55] (hx ++ [aLa 1 o]) (some (.int c)) (hx' ++ [aLa 1 o'])) (hM : aWr l X mX7_setUp is19 [.ref 0, .int (X.2.2.2.2 1 (i + 1)), .int (bI up)] hm (some (.int (bI rb))) hm') (hT : aRd l X mX7_thrown is19 [.ref 0] hm' (.int c)) (ha : c = 0 → o' 0 = (if rb then 1 else 0)) (b : aLk hx hm) (b' : aLk hx' hm) (b'' : aLk hx' hm') (g0 : hm[0]? = some (aOb 7 gs)) (g0' : hm'[0]? = some (aOb 7 gs')) (nx : aJ l X (mLw nm hh) ([], G) (kc + 8) (ks + 64) 1581 (LV i) [] (aLw hx' hm' (aLa 1 o') (aDa 1 d))) : aJ l X (mLw nm hh) ([], G) kc ks 538 (LV i) [] (aLw hx hm (aLa 1 o) (aDa 1 d)) := by
  have he1 : (nI i + 1).toNatClampNeg = i + 1 := by rw [nI_1]; exact nI_clamp (by omega)
  have he2 : (nI i + 2).toNatClampNeg = i + 2 := by rw [show nI i + 2 = nI (i + 2) from nI_add i 2]; exact nI_clamp (by omega)
  have hi1 : vp_in (nI i + 1) (X.2.2.2.1 1) := by rw [nI_1]; exact vp_in_nI (by omega) (by omega)
  have hi2 : vp_in (nI i + 2) (X.2.2.2.1 1) := by rw [show nI i + 2 = nI (i + 2) from nI_add i 2]; exact vp_in_nI (by omega) (by omega)
  by_cases hp : X.2.2.2.2 1 (i + 2) = 0
  · obtain rfl : up = false := by rw [hup]; simp [hp]
    refine a_aload_n dL_law_538 rfl ?_
    refine a_xload_n dL_law_539 rfl ?_
    refine a_iload dL_law_540 rfl ?_
    refine a_iconst 1 dL_law_542 (by decide) ?_
    refine a_iadd dL_law_543 ?_
    refine a_xald (by decide) dL_law_544 hi1 ?_
    rw [he1]
    refine a_xload_n dL_law_545 rfl ?_
    refine a_iload dL_law_546 rfl ?_
    refine a_iconst 2 dL_law_548 (by decide) ?_
    refine a_iadd dL_law_549 ?_
    refine a_xald (by decide) dL_law_550 hi2 ?_
    rw [he2]
    refine a_if_eq 558 dL_law_551 (by decide) (fun _ => ?_) (fun z => absurd hp z)
    refine a_iconst 0 dL_law_558 (by decide) ?_
    refine a_aload_n dL_law_559 rfl ?_
    refine lw_callA kw_126 hC dL_law_560 rfl rfl rfl rfl (Nat.le_of_ble_eq_true rfl) ⟨by show kc + 1 ≤ 631930; omega, by show ks + 6 ≤ 7200314; omega⟩ b b' ?_
    refine a_istore dL_law_563 (Nat.le_of_ble_eq_true rfl) rfl ?_
    refine a_aload_n dL_law_565 rfl ?_
    refine a_xload_n dL_law_566 rfl ?_
    refine a_iload dL_law_567 rfl ?_
    refine a_iconst 1 dL_law_569 (by decide) ?_
    refine a_iadd dL_law_570 ?_
    refine a_xald (by decide) dL_law_571 hi1 ?_
    rw [he1]
    refine a_xload_n dL_law_572 rfl ?_
    refine a_iload dL_law_573 rfl ?_
    refine a_iconst 2 dL_law_575 (by decide) ?_
    refine a_iadd dL_law_576 ?_
    refine a_xald (by decide) dL_law_577 hi2 ?_
    rw [he2]
    refine a_if_eq 585 dL_law_578 (by decide) (fun _ => ?_) (fun z => absurd hp z)
    refine a_iconst 0 dL_law_585 (by decide) ?_
    refine lw_callM kw_129 hM dL_law_586 rfl g0 rfl rfl rfl (Nat.le_of_ble_eq_true rfl) ⟨by show kc + 1 ≤ 631930; omega, by show ks + 6 ≤ 7200314; omega⟩ b' b'' (fun _ => rfl) ?_
    refine a_istore dL_law_589 (Nat.le_of_ble_eq_true rfl) rfl ?_
    refine a_aload_n dL_law_591 rfl ?_
    refine lw_callM kw_97 hT dL_law_592 rfl g0' rfl rfl rfl (Nat.le_of_ble_eq_true rfl) ⟨by show kc + 1 ≤ 631930; omega, by show ks + 6 ≤ 7200314; omega⟩ b'' b'' (fun _ => rfl) ?_
    refine a_iload dL_law_595 rfl ?_
    refine a_icmp_eq 602 dL_law_597 (by decide) (fun _ => ?_) (fun z => absurd rfl z)
    refine a_iload dL_law_602 rfl ?_
    refine a_if_ne 626 dL_law_604 (by decide) (fun c604 => ?_) (fun c604 => ?_)
    · refine a_goto 1581 dL_law_626 (by decide) ?_
      refine a_drop 6 ?_
      refine a_drop 7 ?_
      exact a_wid (by show kc + 1 ≤ kc + 8; omega) (by show ks + 6 ≤ ks + 64; omega) nx
    · have ha0 := ha c604
      refine a_aload_n dL_law_607 rfl ?_
      refine a_iconst 0 dL_law_608 (by decide) ?_
      refine a_lald dL_law_609 (aLw_74 b'') one_in ?_
      cases rb with
      | true =>
        refine a_iload dL_law_610 rfl ?_
        refine a_if_eq 619 dL_law_612 (by decide) (fun z => absurd z (by decide)) (fun _ => ?_)
        refine a_lconst 1 dL_law_615 (by decide) ?_
        refine a_goto 620 dL_law_616 (by decide) ?_
        refine a_lcmp dL_law_620 ?_
        refine a_if_eq 626 dL_law_621 (by decide) (fun _ => ?_) (fun z => absurd ((lg_cmp_eq _ _).mpr ha0) z)
        refine a_goto 1581 dL_law_626 (by decide) ?_
        refine a_drop 6 ?_
        refine a_drop 7 ?_
        exact a_wid (by show kc + 1 ≤ kc + 8; omega) (by show ks + 6 ≤ ks + 64; omega) nx
      | false =>
        refine a_iload dL_law_610 rfl ?_
        refine a_if_eq 619 dL_law_612 (by decide) (fun _ => ?_) (fun z => absurd (by decide) z)
        refine a_lconst 0 dL_law_619 (by decide) ?_
        refine a_lcmp dL_law_620 ?_
        refine a_if_eq 626 dL_law_621 (by decide) (fun _ => ?_) (fun z => absurd ((lg_cmp_eq _ _).mpr ha0) z)
        refine a_goto 1581 dL_law_626 (by decide) ?_
        refine a_drop 6 ?_
        refine a_drop 7 ?_
        exact a_wid (by show kc + 1 ≤ kc + 8; omega) (by show ks + 6 ≤ ks + 64; omega) nx
  · obtain rfl : up = true := by rw [hup]; simp [hp]
    refine a_aload_n dL_law_538 rfl ?_
    refine a_xload_n dL_law_539 rfl ?_
    refine a_iload dL_law_540 rfl ?_
    refine a_iconst 1 dL_law_542 (by decide) ?_
    refine a_iadd dL_law_543 ?_
    refine a_xald (by decide) dL_law_544 hi1 ?_
    rw [he1]
    refine a_xload_n dL_law_545 rfl ?_
    refine a_iload dL_law_546 rfl ?_
    refine a_iconst 2 dL_law_548 (by decide) ?_
    refine a_iadd dL_law_549 ?_
    refine a_xald (by decide) dL_law_550 hi2 ?_
    rw [he2]
    refine a_if_eq 558 dL_law_551 (by decide) (fun z => absurd z hp) (fun _ => ?_)
    refine a_iconst 1 dL_law_554 (by decide) ?_
    refine a_goto 559 dL_law_555 (by decide) ?_
    refine a_aload_n dL_law_559 rfl ?_
    refine lw_callA kw_126 hC dL_law_560 rfl rfl rfl rfl (Nat.le_of_ble_eq_true rfl) ⟨by show kc + 1 ≤ 631930; omega, by show ks + 6 ≤ 7200314; omega⟩ b b' ?_
    refine a_istore dL_law_563 (Nat.le_of_ble_eq_true rfl) rfl ?_
    refine a_aload_n dL_law_565 rfl ?_
    refine a_xload_n dL_law_566 rfl ?_
    refine a_iload dL_law_567 rfl ?_
    refine a_iconst 1 dL_law_569 (by decide) ?_
    refine a_iadd dL_law_570 ?_
    refine a_xald (by decide) dL_law_571 hi1 ?_
    rw [he1]
    refine a_xload_n dL_law_572 rfl ?_
    refine a_iload dL_law_573 rfl ?_
    refine a_iconst 2 dL_law_575 (by decide) ?_
    refine a_iadd dL_law_576 ?_
    refine a_xald (by decide) dL_law_577 hi2 ?_
    rw [he2]
    refine a_if_eq 585 dL_law_578 (by decide) (fun z => absurd z hp) (fun _ => ?_)
    refine a_iconst 1 dL_law_581 (by decide) ?_
    refine a_goto 586 dL_law_582 (by decide) ?_
    refine lw_callM kw_129 hM dL_law_586 rfl g0 rfl rfl rfl (Nat.le_of_ble_eq_true rfl) ⟨by show kc + 1 ≤ 631930; omega, by show ks + 6 ≤ 7200314; omega⟩ b' b'' (fun _ => rfl) ?_
    refine a_istore dL_law_589 (Nat.le_of_ble_eq_true rfl) rfl ?_
    refine a_aload_n dL_law_591 rfl ?_
    refine lw_callM kw_97 hT dL_law_592 rfl g0' rfl rfl rfl (Nat.le_of_ble_eq_true rfl) ⟨by show kc + 1 ≤ 631930; omega, by show ks + 6 ≤ 7200314; omega⟩ b'' b'' (fun _ => rfl) ?_
    refine a_iload dL_law_595 rfl ?_
    refine a_icmp_eq 602 dL_law_597 (by decide) (fun _ => ?_) (fun z => absurd rfl z)
    refine a_iload dL_law_602 rfl ?_
    refine a_if_ne 626 dL_law_604 (by decide) (fun c604 => ?_) (fun c604 => ?_)
    · refine a_goto 1581 dL_law_626 (by decide) ?_
      refine a_drop 6 ?_
      refine a_drop 7 ?_
      exact a_wid (by show kc + 1 ≤ kc + 8; omega) (by show ks + 6 ≤ ks + 64; omega) nx
    · have ha0 := ha c604
      refine a_aload_n dL_law_607 rfl ?_
      refine a_iconst 0 dL_law_608 (by decide) ?_
      refine a_lald dL_law_609 (aLw_74 b'') one_in ?_
      cases rb with
      | true =>
        refine a_iload dL_law_610 rfl ?_
        refine a_if_eq 619 dL_law_612 (by decide) (fun z => absurd z (by decide)) (fun _ => ?_)
        refine a_lconst 1 dL_law_615 (by decide) ?_
        refine a_goto 620 dL_law_616 (by decide) ?_
        refine a_lcmp dL_law_620 ?_
        refine a_if_eq 626 dL_law_621 (by decide) (fun _ => ?_) (fun z => absurd ((lg_cmp_eq _ _).mpr ha0) z)
        refine a_goto 1581 dL_law_626 (by decide) ?_
        refine a_drop 6 ?_
        refine a_drop 7 ?_
        exact a_wid (by show kc + 1 ≤ kc + 8; omega) (by show ks + 6 ≤ ks + 64; omega) nx
      | false =>
        refine a_iload dL_law_610 rfl ?_
        refine a_if_eq 619 dL_law_612 (by decide) (fun _ => ?_) (fun z => absurd (by decide) z)
        refine a_lconst 0 dL_law_619 (by decide) ?_
        refine a_lcmp dL_law_620 ?_
        refine a_if_eq 626 dL_law_621 (by decide) (fun _ => ?_) (fun z => absurd ((lg_cmp_eq _ _).mpr ha0) z)
        refine a_goto 1581 dL_law_626 (by decide) ?_
        refine a_drop 6 ?_
        refine a_drop 7 ?_
        exact a_wid (by show kc + 1 ≤ kc + 8; omega) (by show ks + 6 ≤ ks + 64; omega) nx
theorem w_serverCount (hkc : kc ≤ 600000) (hks : ks ≤ 7000000) {x : Int32} (hC : aRd l X mX6_serverCount [0] [.ref 0] hx (.int x)) (hM : aWr l X mX7_serverCount is19 [.ref 0] hm (some (.int x)) hm') (b : aLk hx hm) (b'' : aLk hx hm') (f0 : hx[0]? = some (aOb 6 fs)) (g0 : hm[0]? = some (aOb 7 gs)) (nx : aJ l X (mLw nm hh) ([], G) (kc + 8) (ks + 64) 1581 (LV i) [] (aLw hx hm' (aLa 1 o) (aDa 1 d))) : aJ l X (mLw nm hh) ([], G) kc ks 629 (LV i) [] (aLw hx hm (aLa 1 o) (aDa 1 d)) := by
  refine a_aload_n dL_law_629 rfl ?_
  refine lw_callC kw_130 hC dL_law_630 rfl f0 rfl rfl rfl (Nat.le_of_ble_eq_true rfl) ⟨by show kc + 0 ≤ 631930; omega, by show ks + 0 ≤ 7200314; omega⟩ b (fun _ => rfl) ?_
  refine a_aload_n dL_law_633 rfl ?_
  refine lw_callM kw_133 hM dL_law_634 rfl g0 rfl rfl rfl (Nat.le_of_ble_eq_true rfl) ⟨by show kc + 0 ≤ 631930; omega, by show ks + 0 ≤ 7200314; omega⟩ b b'' (fun _ => rfl) ?_
  refine a_icmp_eq 1581 dL_law_637 (by decide) (fun _ => ?_) (fun z => absurd rfl z)
  exact a_wid (by show kc + 0 ≤ kc + 8; omega) (by show ks + 0 ≤ ks + 64; omega) nx
theorem w_serverNamed (hi : i + 2 < X.2.2.2.1 1) (hL : X.2.2.2.1 1 ≤ 1536) (hkc : kc ≤ 600000) (hks : ks ≤ 7000000) {c : Int32} {rb : Int32} (hC : aWr l X mL_serverNamed [0, 55] [.ref 0, .int (X.2.2.2.2 1 (i + 1)), .ref 55] (hx ++ [aLa 1 o]) (some (.int c)) (hx' ++ [aLa 1 o'])) (hM : aWr l X mX7_serverNamed is19 [.ref 0, .int (X.2.2.2.2 1 (i + 1))] hm (some (.int rb)) hm') (hT : aRd l X mX7_thrown is19 [.ref 0] hm' (.int c)) (ha : c = 0 → o' 0 = rb.toInt64) (b : aLk hx hm) (b' : aLk hx' hm) (b'' : aLk hx' hm') (g0 : hm[0]? = some (aOb 7 gs)) (g0' : hm'[0]? = some (aOb 7 gs')) (nx : aJ l X (mLw nm hh) ([], G) (kc + 8) (ks + 64) 1581 (LV i) [] (aLw hx' hm' (aLa 1 o') (aDa 1 d))) : aJ l X (mLw nm hh) ([], G) kc ks 642 (LV i) [] (aLw hx hm (aLa 1 o) (aDa 1 d)) := by
  have he1 : (nI i + 1).toNatClampNeg = i + 1 := by rw [nI_1]; exact nI_clamp (by omega)
  have he2 : (nI i + 2).toNatClampNeg = i + 2 := by rw [show nI i + 2 = nI (i + 2) from nI_add i 2]; exact nI_clamp (by omega)
  have hi1 : vp_in (nI i + 1) (X.2.2.2.1 1) := by rw [nI_1]; exact vp_in_nI (by omega) (by omega)
  have hi2 : vp_in (nI i + 2) (X.2.2.2.1 1) := by rw [show nI i + 2 = nI (i + 2) from nI_add i 2]; exact vp_in_nI (by omega) (by omega)
  refine a_aload_n dL_law_642 rfl ?_
  refine a_xload_n dL_law_643 rfl ?_
  refine a_iload dL_law_644 rfl ?_
  refine a_iconst 1 dL_law_646 (by decide) ?_
  refine a_iadd dL_law_647 ?_
  refine a_xald (by decide) dL_law_648 hi1 ?_
  rw [he1]
  refine a_aload_n dL_law_649 rfl ?_
  refine lw_callA kw_134 hC dL_law_650 rfl rfl rfl rfl (Nat.le_of_ble_eq_true rfl) ⟨by show kc + 1 ≤ 631930; omega, by show ks + 6 ≤ 7200314; omega⟩ b b' ?_
  refine a_istore dL_law_653 (Nat.le_of_ble_eq_true rfl) rfl ?_
  refine a_aload_n dL_law_655 rfl ?_
  refine a_xload_n dL_law_656 rfl ?_
  refine a_iload dL_law_657 rfl ?_
  refine a_iconst 1 dL_law_659 (by decide) ?_
  refine a_iadd dL_law_660 ?_
  refine a_xald (by decide) dL_law_661 hi1 ?_
  rw [he1]
  refine lw_callM kw_136 hM dL_law_662 rfl g0 rfl rfl rfl (Nat.le_of_ble_eq_true rfl) ⟨by show kc + 1 ≤ 631930; omega, by show ks + 6 ≤ 7200314; omega⟩ b' b'' (fun _ => rfl) ?_
  refine a_istore dL_law_665 (Nat.le_of_ble_eq_true rfl) rfl ?_
  refine a_aload_n dL_law_667 rfl ?_
  refine lw_callM kw_97 hT dL_law_668 rfl g0' rfl rfl rfl (Nat.le_of_ble_eq_true rfl) ⟨by show kc + 1 ≤ 631930; omega, by show ks + 6 ≤ 7200314; omega⟩ b'' b'' (fun _ => rfl) ?_
  refine a_iload dL_law_671 rfl ?_
  refine a_icmp_eq 678 dL_law_673 (by decide) (fun _ => ?_) (fun z => absurd rfl z)
  refine a_iload dL_law_678 rfl ?_
  refine a_if_ne 695 dL_law_680 (by decide) (fun c680 => ?_) (fun c680 => ?_)
  · refine a_goto 1581 dL_law_695 (by decide) ?_
    refine a_drop 6 ?_
    refine a_drop 7 ?_
    exact a_wid (by show kc + 1 ≤ kc + 8; omega) (by show ks + 6 ≤ ks + 64; omega) nx
  · have ha0 := ha c680
    refine a_aload_n dL_law_683 rfl ?_
    refine a_iconst 0 dL_law_684 (by decide) ?_
    refine a_lald dL_law_685 (aLw_74 b'') one_in ?_
    refine a_iload dL_law_686 rfl ?_
    refine a_i2l dL_law_688 ?_
    refine a_lcmp dL_law_689 ?_
    refine a_if_eq 695 dL_law_690 (by decide) (fun _ => ?_) (fun z => absurd ((lg_cmp_eq _ _).mpr ha0) z)
    refine a_goto 1581 dL_law_695 (by decide) ?_
    refine a_drop 6 ?_
    refine a_drop 7 ?_
    exact a_wid (by show kc + 1 ≤ kc + 8; omega) (by show ks + 6 ≤ ks + 64; omega) nx
theorem w_preference (hi : i + 2 < X.2.2.2.1 1) (hL : X.2.2.2.1 1 ≤ 1536) (hkc : kc ≤ 600000) (hks : ks ≤ 7000000) {c : Int32} {rb : Int32} (hC : aWr l X mL_preference [0, 55] [.ref 0, .int (X.2.2.2.2 1 (i + 1)), .int (X.2.2.2.2 1 (i + 2)), .ref 55] (hx ++ [aLa 1 o]) (some (.int c)) (hx' ++ [aLa 1 o'])) (hM : aWr l X mX7_preference is19 [.ref 0, .int (X.2.2.2.2 1 (i + 1)), .int (X.2.2.2.2 1 (i + 2))] hm (some (.int rb)) hm') (hT : aRd l X mX7_thrown is19 [.ref 0] hm' (.int c)) (ha : c = 0 → o' 0 = rb.toInt64) (b : aLk hx hm) (b' : aLk hx' hm) (b'' : aLk hx' hm') (g0 : hm[0]? = some (aOb 7 gs)) (g0' : hm'[0]? = some (aOb 7 gs')) (nx : aJ l X (mLw nm hh) ([], G) (kc + 8) (ks + 64) 1581 (LV i) [] (aLw hx' hm' (aLa 1 o') (aDa 1 d))) : aJ l X (mLw nm hh) ([], G) kc ks 698 (LV i) [] (aLw hx hm (aLa 1 o) (aDa 1 d)) := by
  have he1 : (nI i + 1).toNatClampNeg = i + 1 := by rw [nI_1]; exact nI_clamp (by omega)
  have he2 : (nI i + 2).toNatClampNeg = i + 2 := by rw [show nI i + 2 = nI (i + 2) from nI_add i 2]; exact nI_clamp (by omega)
  have hi1 : vp_in (nI i + 1) (X.2.2.2.1 1) := by rw [nI_1]; exact vp_in_nI (by omega) (by omega)
  have hi2 : vp_in (nI i + 2) (X.2.2.2.1 1) := by rw [show nI i + 2 = nI (i + 2) from nI_add i 2]; exact vp_in_nI (by omega) (by omega)
  refine a_aload_n dL_law_698 rfl ?_
  refine a_xload_n dL_law_699 rfl ?_
  refine a_iload dL_law_700 rfl ?_
  refine a_iconst 1 dL_law_702 (by decide) ?_
  refine a_iadd dL_law_703 ?_
  refine a_xald (by decide) dL_law_704 hi1 ?_
  rw [he1]
  refine a_xload_n dL_law_705 rfl ?_
  refine a_iload dL_law_706 rfl ?_
  refine a_iconst 2 dL_law_708 (by decide) ?_
  refine a_iadd dL_law_709 ?_
  refine a_xald (by decide) dL_law_710 hi2 ?_
  rw [he2]
  refine a_aload_n dL_law_711 rfl ?_
  refine lw_callA kw_137 hC dL_law_712 rfl rfl rfl rfl (Nat.le_of_ble_eq_true rfl) ⟨by show kc + 2 ≤ 631930; omega, by show ks + 12 ≤ 7200314; omega⟩ b b' ?_
  refine a_istore dL_law_715 (Nat.le_of_ble_eq_true rfl) rfl ?_
  refine a_aload_n dL_law_717 rfl ?_
  refine a_xload_n dL_law_718 rfl ?_
  refine a_iload dL_law_719 rfl ?_
  refine a_iconst 1 dL_law_721 (by decide) ?_
  refine a_iadd dL_law_722 ?_
  refine a_xald (by decide) dL_law_723 hi1 ?_
  rw [he1]
  refine a_xload_n dL_law_724 rfl ?_
  refine a_iload dL_law_725 rfl ?_
  refine a_iconst 2 dL_law_727 (by decide) ?_
  refine a_iadd dL_law_728 ?_
  refine a_xald (by decide) dL_law_729 hi2 ?_
  rw [he2]
  refine lw_callM kw_139 hM dL_law_730 rfl g0 rfl rfl rfl (Nat.le_of_ble_eq_true rfl) ⟨by show kc + 2 ≤ 631930; omega, by show ks + 12 ≤ 7200314; omega⟩ b' b'' (fun _ => rfl) ?_
  refine a_istore dL_law_733 (Nat.le_of_ble_eq_true rfl) rfl ?_
  refine a_aload_n dL_law_735 rfl ?_
  refine lw_callM kw_97 hT dL_law_736 rfl g0' rfl rfl rfl (Nat.le_of_ble_eq_true rfl) ⟨by show kc + 2 ≤ 631930; omega, by show ks + 12 ≤ 7200314; omega⟩ b'' b'' (fun _ => rfl) ?_
  refine a_iload dL_law_739 rfl ?_
  refine a_icmp_eq 746 dL_law_741 (by decide) (fun _ => ?_) (fun z => absurd rfl z)
  refine a_iload dL_law_746 rfl ?_
  refine a_if_ne 763 dL_law_748 (by decide) (fun c748 => ?_) (fun c748 => ?_)
  · refine a_goto 1581 dL_law_763 (by decide) ?_
    refine a_drop 6 ?_
    refine a_drop 7 ?_
    exact a_wid (by show kc + 2 ≤ kc + 8; omega) (by show ks + 12 ≤ ks + 64; omega) nx
  · have ha0 := ha c748
    refine a_aload_n dL_law_751 rfl ?_
    refine a_iconst 0 dL_law_752 (by decide) ?_
    refine a_lald dL_law_753 (aLw_74 b'') one_in ?_
    refine a_iload dL_law_754 rfl ?_
    refine a_i2l dL_law_756 ?_
    refine a_lcmp dL_law_757 ?_
    refine a_if_eq 763 dL_law_758 (by decide) (fun _ => ?_) (fun z => absurd ((lg_cmp_eq _ _).mpr ha0) z)
    refine a_goto 1581 dL_law_763 (by decide) ?_
    refine a_drop 6 ?_
    refine a_drop 7 ?_
    exact a_wid (by show kc + 2 ≤ kc + 8; omega) (by show ks + 12 ≤ ks + 64; omega) nx
theorem w_slotsOf (hi : i + 2 < X.2.2.2.1 1) (hL : X.2.2.2.1 1 ≤ 1536) (hkc : kc ≤ 600000) (hks : ks ≤ 7000000) {c : Int32} {rb : Int32} (hC : aWr l X mL_slotsOf [0, 55] [.ref 0, .int (X.2.2.2.2 1 (i + 1)), .ref 55] (hx ++ [aLa 1 o]) (some (.int c)) (hx' ++ [aLa 1 o'])) (hM : aWr l X mX7_slotsOf is19 [.ref 0, .int (X.2.2.2.2 1 (i + 1))] hm (some (.int rb)) hm') (hT : aRd l X mX7_thrown is19 [.ref 0] hm' (.int c)) (ha : c = 0 → o' 0 = rb.toInt64) (b : aLk hx hm) (b' : aLk hx' hm) (b'' : aLk hx' hm') (g0 : hm[0]? = some (aOb 7 gs)) (g0' : hm'[0]? = some (aOb 7 gs')) (nx : aJ l X (mLw nm hh) ([], G) (kc + 8) (ks + 64) 1581 (LV i) [] (aLw hx' hm' (aLa 1 o') (aDa 1 d))) : aJ l X (mLw nm hh) ([], G) kc ks 766 (LV i) [] (aLw hx hm (aLa 1 o) (aDa 1 d)) := by
  have he1 : (nI i + 1).toNatClampNeg = i + 1 := by rw [nI_1]; exact nI_clamp (by omega)
  have he2 : (nI i + 2).toNatClampNeg = i + 2 := by rw [show nI i + 2 = nI (i + 2) from nI_add i 2]; exact nI_clamp (by omega)
  have hi1 : vp_in (nI i + 1) (X.2.2.2.1 1) := by rw [nI_1]; exact vp_in_nI (by omega) (by omega)
  have hi2 : vp_in (nI i + 2) (X.2.2.2.1 1) := by rw [show nI i + 2 = nI (i + 2) from nI_add i 2]; exact vp_in_nI (by omega) (by omega)
  refine a_aload_n dL_law_766 rfl ?_
  refine a_xload_n dL_law_767 rfl ?_
  refine a_iload dL_law_768 rfl ?_
  refine a_iconst 1 dL_law_770 (by decide) ?_
  refine a_iadd dL_law_771 ?_
  refine a_xald (by decide) dL_law_772 hi1 ?_
  rw [he1]
  refine a_aload_n dL_law_773 rfl ?_
  refine lw_callA kw_140 hC dL_law_774 rfl rfl rfl rfl (Nat.le_of_ble_eq_true rfl) ⟨by show kc + 1 ≤ 631930; omega, by show ks + 6 ≤ 7200314; omega⟩ b b' ?_
  refine a_istore dL_law_777 (Nat.le_of_ble_eq_true rfl) rfl ?_
  refine a_aload_n dL_law_779 rfl ?_
  refine a_xload_n dL_law_780 rfl ?_
  refine a_iload dL_law_781 rfl ?_
  refine a_iconst 1 dL_law_783 (by decide) ?_
  refine a_iadd dL_law_784 ?_
  refine a_xald (by decide) dL_law_785 hi1 ?_
  rw [he1]
  refine lw_callM kw_142 hM dL_law_786 rfl g0 rfl rfl rfl (Nat.le_of_ble_eq_true rfl) ⟨by show kc + 1 ≤ 631930; omega, by show ks + 6 ≤ 7200314; omega⟩ b' b'' (fun _ => rfl) ?_
  refine a_istore dL_law_789 (Nat.le_of_ble_eq_true rfl) rfl ?_
  refine a_aload_n dL_law_791 rfl ?_
  refine lw_callM kw_97 hT dL_law_792 rfl g0' rfl rfl rfl (Nat.le_of_ble_eq_true rfl) ⟨by show kc + 1 ≤ 631930; omega, by show ks + 6 ≤ 7200314; omega⟩ b'' b'' (fun _ => rfl) ?_
  refine a_iload dL_law_795 rfl ?_
  refine a_icmp_eq 802 dL_law_797 (by decide) (fun _ => ?_) (fun z => absurd rfl z)
  refine a_iload dL_law_802 rfl ?_
  refine a_if_ne 819 dL_law_804 (by decide) (fun c804 => ?_) (fun c804 => ?_)
  · refine a_goto 1581 dL_law_819 (by decide) ?_
    refine a_drop 6 ?_
    refine a_drop 7 ?_
    exact a_wid (by show kc + 1 ≤ kc + 8; omega) (by show ks + 6 ≤ ks + 64; omega) nx
  · have ha0 := ha c804
    refine a_aload_n dL_law_807 rfl ?_
    refine a_iconst 0 dL_law_808 (by decide) ?_
    refine a_lald dL_law_809 (aLw_74 b'') one_in ?_
    refine a_iload dL_law_810 rfl ?_
    refine a_i2l dL_law_812 ?_
    refine a_lcmp dL_law_813 ?_
    refine a_if_eq 819 dL_law_814 (by decide) (fun _ => ?_) (fun z => absurd ((lg_cmp_eq _ _).mpr ha0) z)
    refine a_goto 1581 dL_law_819 (by decide) ?_
    refine a_drop 6 ?_
    refine a_drop 7 ?_
    exact a_wid (by show kc + 1 ≤ kc + 8; omega) (by show ks + 6 ≤ ks + 64; omega) nx
theorem w_idealShare (hi : i + 2 < X.2.2.2.1 1) (hL : X.2.2.2.1 1 ≤ 1536) (hkc : kc ≤ 600000) (hks : ks ≤ 7000000) {c : Int32} {rb : UInt64} (hC : aWr l X mL_idealShare [0, 55] [.ref 0, .int (X.2.2.2.2 1 (i + 1)), .ref 55] (hx ++ [aDa 1 d]) (some (.int c)) (hx' ++ [aDa 1 d'])) (hM : aWr l X mX7_idealShare is19 [.ref 0, .int (X.2.2.2.2 1 (i + 1))] hm (some (.double rb)) hm') (hT : aRd l X mX7_thrown is19 [.ref 0] hm' (.int c)) (ha : c = 0 → d' 0 = rb ∧ vf_n64 rb) (b : aLk hx hm) (b' : aLk hx' hm) (b'' : aLk hx' hm') (g0 : hm[0]? = some (aOb 7 gs)) (g0' : hm'[0]? = some (aOb 7 gs')) (nx : aJ l X (mLw nm hh) ([], G) (kc + 8) (ks + 64) 1581 (LV i) [] (aLw hx' hm' (aLa 1 o) (aDa 1 d'))) : aJ l X (mLw nm hh) ([], G) kc ks 822 (LV i) [] (aLw hx hm (aLa 1 o) (aDa 1 d)) := by
  have he1 : (nI i + 1).toNatClampNeg = i + 1 := by rw [nI_1]; exact nI_clamp (by omega)
  have he2 : (nI i + 2).toNatClampNeg = i + 2 := by rw [show nI i + 2 = nI (i + 2) from nI_add i 2]; exact nI_clamp (by omega)
  have hi1 : vp_in (nI i + 1) (X.2.2.2.1 1) := by rw [nI_1]; exact vp_in_nI (by omega) (by omega)
  have hi2 : vp_in (nI i + 2) (X.2.2.2.1 1) := by rw [show nI i + 2 = nI (i + 2) from nI_add i 2]; exact vp_in_nI (by omega) (by omega)
  refine a_aload_n dL_law_822 rfl ?_
  refine a_xload_n dL_law_823 rfl ?_
  refine a_iload dL_law_824 rfl ?_
  refine a_iconst 1 dL_law_826 (by decide) ?_
  refine a_iadd dL_law_827 ?_
  refine a_xald (by decide) dL_law_828 hi1 ?_
  rw [he1]
  refine a_aload dL_law_829 rfl ?_
  refine lw_callD kw_143 hC dL_law_831 rfl rfl rfl rfl (Nat.le_of_ble_eq_true rfl) ⟨by show kc + 1 ≤ 631930; omega, by show ks + 6 ≤ 7200314; omega⟩ b b' ?_
  refine a_istore dL_law_834 (Nat.le_of_ble_eq_true rfl) rfl ?_
  refine a_aload_n dL_law_836 rfl ?_
  refine a_xload_n dL_law_837 rfl ?_
  refine a_iload dL_law_838 rfl ?_
  refine a_iconst 1 dL_law_840 (by decide) ?_
  refine a_iadd dL_law_841 ?_
  refine a_xald (by decide) dL_law_842 hi1 ?_
  rw [he1]
  refine lw_callM kw_146 hM dL_law_843 rfl g0 rfl rfl rfl (Nat.le_of_ble_eq_true rfl) ⟨by show kc + 1 ≤ 631930; omega, by show ks + 6 ≤ 7200314; omega⟩ b' b'' (fun _ => rfl) ?_
  refine a_dstore dL_law_846 (Nat.le_of_ble_eq_true rfl) rfl ?_
  refine a_aload_n dL_law_848 rfl ?_
  refine lw_callM kw_97 hT dL_law_849 rfl g0' rfl rfl rfl (Nat.le_of_ble_eq_true rfl) ⟨by show kc + 1 ≤ 631930; omega, by show ks + 6 ≤ 7200314; omega⟩ b'' b'' (fun _ => rfl) ?_
  refine a_iload dL_law_852 rfl ?_
  refine a_icmp_eq 859 dL_law_854 (by decide) (fun _ => ?_) (fun z => absurd rfl z)
  refine a_iload dL_law_859 rfl ?_
  refine a_if_ne 896 dL_law_861 (by decide) (fun c861 => ?_) (fun c861 => ?_)
  · refine a_goto 1581 dL_law_896 (by decide) ?_
    refine a_drop 6 ?_
    refine a_drop 7 ?_
    exact a_wid (by show kc + 1 ≤ kc + 8; omega) (by show ks + 6 ≤ ks + 64; omega) nx
  · have ha0 := ha c861
    refine a_aload dL_law_864 rfl ?_
    refine a_iconst 0 dL_law_866 (by decide) ?_
    refine a_dald dL_law_867 (aLw_75 b'') one_in ?_
    refine a_dload dL_law_868 rfl ?_
    refine a_dcmp dL_law_870 ?_
    refine a_if_eq 896 dL_law_871 (by decide) (fun _ => ?_) (fun z => absurd (show Op.cmpValue (FP.dcmp (d' 0) rb) .l = 0 from by rw [ha0.1]; exact dcmp_same ha0.2) z)
    refine a_goto 1581 dL_law_896 (by decide) ?_
    refine a_drop 6 ?_
    refine a_drop 7 ?_
    exact a_wid (by show kc + 1 ≤ kc + 8; omega) (by show ks + 6 ≤ ks + 64; omega) nx
theorem w_removalDisruption (hi : i + 2 < X.2.2.2.1 1) (hL : X.2.2.2.1 1 ≤ 1536) (hkc : kc ≤ 600000) (hks : ks ≤ 7000000) {c : Int32} {rb : Int32} (hC : aWr l X mL_removalDisruption [0, 55] [.ref 0, .int (X.2.2.2.2 1 (i + 1)), .ref 55] (hx ++ [aLa 1 o]) (some (.int c)) (hx' ++ [aLa 1 o'])) (hM : aWr l X mX7_removalDisruption is19 [.ref 0, .int (X.2.2.2.2 1 (i + 1))] hm (some (.int rb)) hm') (hT : aRd l X mX7_thrown is19 [.ref 0] hm' (.int c)) (ha : c = 0 → o' 0 = rb.toInt64) (b : aLk hx hm) (b' : aLk hx' hm) (b'' : aLk hx' hm') (g0 : hm[0]? = some (aOb 7 gs)) (g0' : hm'[0]? = some (aOb 7 gs')) (nx : aJ l X (mLw nm hh) ([], G) (kc + 8) (ks + 64) 1581 (LV i) [] (aLw hx' hm' (aLa 1 o') (aDa 1 d))) : aJ l X (mLw nm hh) ([], G) kc ks 899 (LV i) [] (aLw hx hm (aLa 1 o) (aDa 1 d)) := by
  have he1 : (nI i + 1).toNatClampNeg = i + 1 := by rw [nI_1]; exact nI_clamp (by omega)
  have he2 : (nI i + 2).toNatClampNeg = i + 2 := by rw [show nI i + 2 = nI (i + 2) from nI_add i 2]; exact nI_clamp (by omega)
  have hi1 : vp_in (nI i + 1) (X.2.2.2.1 1) := by rw [nI_1]; exact vp_in_nI (by omega) (by omega)
  have hi2 : vp_in (nI i + 2) (X.2.2.2.1 1) := by rw [show nI i + 2 = nI (i + 2) from nI_add i 2]; exact vp_in_nI (by omega) (by omega)
  refine a_aload_n dL_law_899 rfl ?_
  refine a_xload_n dL_law_900 rfl ?_
  refine a_iload dL_law_901 rfl ?_
  refine a_iconst 1 dL_law_903 (by decide) ?_
  refine a_iadd dL_law_904 ?_
  refine a_xald (by decide) dL_law_905 hi1 ?_
  rw [he1]
  refine a_aload_n dL_law_906 rfl ?_
  refine lw_callA kw_147 hC dL_law_907 rfl rfl rfl rfl (Nat.le_of_ble_eq_true rfl) ⟨by show kc + 1 ≤ 631930; omega, by show ks + 6 ≤ 7200314; omega⟩ b b' ?_
  refine a_istore dL_law_910 (Nat.le_of_ble_eq_true rfl) rfl ?_
  refine a_aload_n dL_law_912 rfl ?_
  refine a_xload_n dL_law_913 rfl ?_
  refine a_iload dL_law_914 rfl ?_
  refine a_iconst 1 dL_law_916 (by decide) ?_
  refine a_iadd dL_law_917 ?_
  refine a_xald (by decide) dL_law_918 hi1 ?_
  rw [he1]
  refine lw_callM kw_149 hM dL_law_919 rfl g0 rfl rfl rfl (Nat.le_of_ble_eq_true rfl) ⟨by show kc + 1 ≤ 631930; omega, by show ks + 6 ≤ 7200314; omega⟩ b' b'' (fun _ => rfl) ?_
  refine a_istore dL_law_922 (Nat.le_of_ble_eq_true rfl) rfl ?_
  refine a_aload_n dL_law_924 rfl ?_
  refine lw_callM kw_97 hT dL_law_925 rfl g0' rfl rfl rfl (Nat.le_of_ble_eq_true rfl) ⟨by show kc + 1 ≤ 631930; omega, by show ks + 6 ≤ 7200314; omega⟩ b'' b'' (fun _ => rfl) ?_
  refine a_iload dL_law_928 rfl ?_
  refine a_icmp_eq 935 dL_law_930 (by decide) (fun _ => ?_) (fun z => absurd rfl z)
  refine a_iload dL_law_935 rfl ?_
  refine a_if_ne 952 dL_law_937 (by decide) (fun c937 => ?_) (fun c937 => ?_)
  · refine a_goto 1581 dL_law_952 (by decide) ?_
    refine a_drop 6 ?_
    refine a_drop 7 ?_
    exact a_wid (by show kc + 1 ≤ kc + 8; omega) (by show ks + 6 ≤ ks + 64; omega) nx
  · have ha0 := ha c937
    refine a_aload_n dL_law_940 rfl ?_
    refine a_iconst 0 dL_law_941 (by decide) ?_
    refine a_lald dL_law_942 (aLw_74 b'') one_in ?_
    refine a_iload dL_law_943 rfl ?_
    refine a_i2l dL_law_945 ?_
    refine a_lcmp dL_law_946 ?_
    refine a_if_eq 952 dL_law_947 (by decide) (fun _ => ?_) (fun z => absurd ((lg_cmp_eq _ _).mpr ha0) z)
    refine a_goto 1581 dL_law_952 (by decide) ?_
    refine a_drop 6 ?_
    refine a_drop 7 ?_
    exact a_wid (by show kc + 1 ≤ kc + 8; omega) (by show ks + 6 ≤ ks + 64; omega) nx
theorem w_serverOf (hi : i + 2 < X.2.2.2.1 1) (hL : X.2.2.2.1 1 ≤ 1536) (hkc : kc ≤ 600000) (hks : ks ≤ 7000000) {c : Int32} {rb : Int32} (hC : aWr l X mL_serverOf [0, 55] [.ref 0, .int (X.2.2.2.2 1 (i + 1)), .ref 55] (hx ++ [aLa 1 o]) (some (.int c)) (hx' ++ [aLa 1 o'])) (hM : aWr l X mX7_serverOf is19 [.ref 0, .int (X.2.2.2.2 1 (i + 1))] hm (some (.int rb)) hm') (hT : aRd l X mX7_thrown is19 [.ref 0] hm' (.int c)) (ha : c = 0 → o' 0 = rb.toInt64) (b : aLk hx hm) (b' : aLk hx' hm) (b'' : aLk hx' hm') (g0 : hm[0]? = some (aOb 7 gs)) (g0' : hm'[0]? = some (aOb 7 gs')) (nx : aJ l X (mLw nm hh) ([], G) (kc + 8) (ks + 64) 1581 (LV i) [] (aLw hx' hm' (aLa 1 o') (aDa 1 d))) : aJ l X (mLw nm hh) ([], G) kc ks 955 (LV i) [] (aLw hx hm (aLa 1 o) (aDa 1 d)) := by
  have he1 : (nI i + 1).toNatClampNeg = i + 1 := by rw [nI_1]; exact nI_clamp (by omega)
  have he2 : (nI i + 2).toNatClampNeg = i + 2 := by rw [show nI i + 2 = nI (i + 2) from nI_add i 2]; exact nI_clamp (by omega)
  have hi1 : vp_in (nI i + 1) (X.2.2.2.1 1) := by rw [nI_1]; exact vp_in_nI (by omega) (by omega)
  have hi2 : vp_in (nI i + 2) (X.2.2.2.1 1) := by rw [show nI i + 2 = nI (i + 2) from nI_add i 2]; exact vp_in_nI (by omega) (by omega)
  refine a_aload_n dL_law_955 rfl ?_
  refine a_xload_n dL_law_956 rfl ?_
  refine a_iload dL_law_957 rfl ?_
  refine a_iconst 1 dL_law_959 (by decide) ?_
  refine a_iadd dL_law_960 ?_
  refine a_xald (by decide) dL_law_961 hi1 ?_
  rw [he1]
  refine a_aload_n dL_law_962 rfl ?_
  refine lw_callA kw_150 hC dL_law_963 rfl rfl rfl rfl (Nat.le_of_ble_eq_true rfl) ⟨by show kc + 1 ≤ 631930; omega, by show ks + 6 ≤ 7200314; omega⟩ b b' ?_
  refine a_istore dL_law_966 (Nat.le_of_ble_eq_true rfl) rfl ?_
  refine a_aload_n dL_law_968 rfl ?_
  refine a_xload_n dL_law_969 rfl ?_
  refine a_iload dL_law_970 rfl ?_
  refine a_iconst 1 dL_law_972 (by decide) ?_
  refine a_iadd dL_law_973 ?_
  refine a_xald (by decide) dL_law_974 hi1 ?_
  rw [he1]
  refine lw_callM kw_152 hM dL_law_975 rfl g0 rfl rfl rfl (Nat.le_of_ble_eq_true rfl) ⟨by show kc + 1 ≤ 631930; omega, by show ks + 6 ≤ 7200314; omega⟩ b' b'' (fun _ => rfl) ?_
  refine a_istore dL_law_978 (Nat.le_of_ble_eq_true rfl) rfl ?_
  refine a_aload_n dL_law_980 rfl ?_
  refine lw_callM kw_97 hT dL_law_981 rfl g0' rfl rfl rfl (Nat.le_of_ble_eq_true rfl) ⟨by show kc + 1 ≤ 631930; omega, by show ks + 6 ≤ 7200314; omega⟩ b'' b'' (fun _ => rfl) ?_
  refine a_iload dL_law_984 rfl ?_
  refine a_icmp_eq 991 dL_law_986 (by decide) (fun _ => ?_) (fun z => absurd rfl z)
  refine a_iload dL_law_991 rfl ?_
  refine a_if_ne 1008 dL_law_993 (by decide) (fun c993 => ?_) (fun c993 => ?_)
  · refine a_goto 1581 dL_law_1008 (by decide) ?_
    refine a_drop 6 ?_
    refine a_drop 7 ?_
    exact a_wid (by show kc + 1 ≤ kc + 8; omega) (by show ks + 6 ≤ ks + 64; omega) nx
  · have ha0 := ha c993
    refine a_aload_n dL_law_996 rfl ?_
    refine a_iconst 0 dL_law_997 (by decide) ?_
    refine a_lald dL_law_998 (aLw_74 b'') one_in ?_
    refine a_iload dL_law_999 rfl ?_
    refine a_i2l dL_law_1001 ?_
    refine a_lcmp dL_law_1002 ?_
    refine a_if_eq 1008 dL_law_1003 (by decide) (fun _ => ?_) (fun z => absurd ((lg_cmp_eq _ _).mpr ha0) z)
    refine a_goto 1581 dL_law_1008 (by decide) ?_
    refine a_drop 6 ?_
    refine a_drop 7 ?_
    exact a_wid (by show kc + 1 ≤ kc + 8; omega) (by show ks + 6 ≤ ks + 64; omega) nx
theorem w_request (hi : i + 2 < X.2.2.2.1 1) (hL : X.2.2.2.1 1 ≤ 1536) (hkc : kc ≤ 600000) (hks : ks ≤ 7000000) {c : Int32} {rb : Int32} (hC : aWr l X mL_request [0, 55] [.ref 0, .int (X.2.2.2.2 1 (i + 1)), .int (X.2.2.2.2 1 (i + 2)), .ref 55] (hx ++ [aLa 1 o]) (some (.int c)) (hx' ++ [aLa 1 o'])) (hM : aWr l X mX7_request is19 [.ref 0, .int (X.2.2.2.2 1 (i + 1)), .int (X.2.2.2.2 1 (i + 2))] hm (some (.int rb)) hm') (hT : aRd l X mX7_thrown is19 [.ref 0] hm' (.int c)) (ha : c = 0 → o' 0 = rb.toInt64) (b : aLk hx hm) (b' : aLk hx' hm) (b'' : aLk hx' hm') (g0 : hm[0]? = some (aOb 7 gs)) (g0' : hm'[0]? = some (aOb 7 gs')) (nx : aJ l X (mLw nm hh) ([], G) (kc + 8) (ks + 64) 1581 (LV i) [] (aLw hx' hm' (aLa 1 o') (aDa 1 d))) : aJ l X (mLw nm hh) ([], G) kc ks 1011 (LV i) [] (aLw hx hm (aLa 1 o) (aDa 1 d)) := by
  have he1 : (nI i + 1).toNatClampNeg = i + 1 := by rw [nI_1]; exact nI_clamp (by omega)
  have he2 : (nI i + 2).toNatClampNeg = i + 2 := by rw [show nI i + 2 = nI (i + 2) from nI_add i 2]; exact nI_clamp (by omega)
  have hi1 : vp_in (nI i + 1) (X.2.2.2.1 1) := by rw [nI_1]; exact vp_in_nI (by omega) (by omega)
  have hi2 : vp_in (nI i + 2) (X.2.2.2.1 1) := by rw [show nI i + 2 = nI (i + 2) from nI_add i 2]; exact vp_in_nI (by omega) (by omega)
  refine a_aload_n dL_law_1011 rfl ?_
  refine a_xload_n dL_law_1012 rfl ?_
  refine a_iload dL_law_1013 rfl ?_
  refine a_iconst 1 dL_law_1015 (by decide) ?_
  refine a_iadd dL_law_1016 ?_
  refine a_xald (by decide) dL_law_1017 hi1 ?_
  rw [he1]
  refine a_xload_n dL_law_1018 rfl ?_
  refine a_iload dL_law_1019 rfl ?_
  refine a_iconst 2 dL_law_1021 (by decide) ?_
  refine a_iadd dL_law_1022 ?_
  refine a_xald (by decide) dL_law_1023 hi2 ?_
  rw [he2]
  refine a_aload_n dL_law_1024 rfl ?_
  refine lw_callA kw_153 hC dL_law_1025 rfl rfl rfl rfl (Nat.le_of_ble_eq_true rfl) ⟨by show kc + 2 ≤ 631930; omega, by show ks + 12 ≤ 7200314; omega⟩ b b' ?_
  refine a_istore dL_law_1028 (Nat.le_of_ble_eq_true rfl) rfl ?_
  refine a_aload_n dL_law_1030 rfl ?_
  refine a_xload_n dL_law_1031 rfl ?_
  refine a_iload dL_law_1032 rfl ?_
  refine a_iconst 1 dL_law_1034 (by decide) ?_
  refine a_iadd dL_law_1035 ?_
  refine a_xald (by decide) dL_law_1036 hi1 ?_
  rw [he1]
  refine a_xload_n dL_law_1037 rfl ?_
  refine a_iload dL_law_1038 rfl ?_
  refine a_iconst 2 dL_law_1040 (by decide) ?_
  refine a_iadd dL_law_1041 ?_
  refine a_xald (by decide) dL_law_1042 hi2 ?_
  rw [he2]
  refine lw_callM kw_155 hM dL_law_1043 rfl g0 rfl rfl rfl (Nat.le_of_ble_eq_true rfl) ⟨by show kc + 2 ≤ 631930; omega, by show ks + 12 ≤ 7200314; omega⟩ b' b'' (fun _ => rfl) ?_
  refine a_istore dL_law_1046 (Nat.le_of_ble_eq_true rfl) rfl ?_
  refine a_aload_n dL_law_1048 rfl ?_
  refine lw_callM kw_97 hT dL_law_1049 rfl g0' rfl rfl rfl (Nat.le_of_ble_eq_true rfl) ⟨by show kc + 2 ≤ 631930; omega, by show ks + 12 ≤ 7200314; omega⟩ b'' b'' (fun _ => rfl) ?_
  refine a_iload dL_law_1052 rfl ?_
  refine a_icmp_eq 1059 dL_law_1054 (by decide) (fun _ => ?_) (fun z => absurd rfl z)
  refine a_iload dL_law_1059 rfl ?_
  refine a_if_ne 1076 dL_law_1061 (by decide) (fun c1061 => ?_) (fun c1061 => ?_)
  · refine a_goto 1581 dL_law_1076 (by decide) ?_
    refine a_drop 6 ?_
    refine a_drop 7 ?_
    exact a_wid (by show kc + 2 ≤ kc + 8; omega) (by show ks + 12 ≤ ks + 64; omega) nx
  · have ha0 := ha c1061
    refine a_aload_n dL_law_1064 rfl ?_
    refine a_iconst 0 dL_law_1065 (by decide) ?_
    refine a_lald dL_law_1066 (aLw_74 b'') one_in ?_
    refine a_iload dL_law_1067 rfl ?_
    refine a_i2l dL_law_1069 ?_
    refine a_lcmp dL_law_1070 ?_
    refine a_if_eq 1076 dL_law_1071 (by decide) (fun _ => ?_) (fun z => absurd ((lg_cmp_eq _ _).mpr ha0) z)
    refine a_goto 1581 dL_law_1076 (by decide) ?_
    refine a_drop 6 ?_
    refine a_drop 7 ?_
    exact a_wid (by show kc + 2 ≤ kc + 8; omega) (by show ks + 12 ≤ ks + 64; omega) nx
theorem w_loadOf (hi : i + 2 < X.2.2.2.1 1) (hL : X.2.2.2.1 1 ≤ 1536) (hkc : kc ≤ 600000) (hks : ks ≤ 7000000) {c : Int32} {rb : Int64} (hC : aWr l X mL_loadOf [0, 55] [.ref 0, .int (X.2.2.2.2 1 (i + 1)), .ref 55] (hx ++ [aLa 1 o]) (some (.int c)) (hx' ++ [aLa 1 o'])) (hM : aWr l X mX7_loadOf is19 [.ref 0, .int (X.2.2.2.2 1 (i + 1))] hm (some (.long rb)) hm') (hT : aRd l X mX7_thrown is19 [.ref 0] hm' (.int c)) (ha : c = 0 → o' 0 = rb) (b : aLk hx hm) (b' : aLk hx' hm) (b'' : aLk hx' hm') (g0 : hm[0]? = some (aOb 7 gs)) (g0' : hm'[0]? = some (aOb 7 gs')) (nx : aJ l X (mLw nm hh) ([], G) (kc + 8) (ks + 64) 1581 (LV i) [] (aLw hx' hm' (aLa 1 o') (aDa 1 d))) : aJ l X (mLw nm hh) ([], G) kc ks 1079 (LV i) [] (aLw hx hm (aLa 1 o) (aDa 1 d)) := by
  have he1 : (nI i + 1).toNatClampNeg = i + 1 := by rw [nI_1]; exact nI_clamp (by omega)
  have he2 : (nI i + 2).toNatClampNeg = i + 2 := by rw [show nI i + 2 = nI (i + 2) from nI_add i 2]; exact nI_clamp (by omega)
  have hi1 : vp_in (nI i + 1) (X.2.2.2.1 1) := by rw [nI_1]; exact vp_in_nI (by omega) (by omega)
  have hi2 : vp_in (nI i + 2) (X.2.2.2.1 1) := by rw [show nI i + 2 = nI (i + 2) from nI_add i 2]; exact vp_in_nI (by omega) (by omega)
  refine a_aload_n dL_law_1079 rfl ?_
  refine a_xload_n dL_law_1080 rfl ?_
  refine a_iload dL_law_1081 rfl ?_
  refine a_iconst 1 dL_law_1083 (by decide) ?_
  refine a_iadd dL_law_1084 ?_
  refine a_xald (by decide) dL_law_1085 hi1 ?_
  rw [he1]
  refine a_aload_n dL_law_1086 rfl ?_
  refine lw_callA kw_156 hC dL_law_1087 rfl rfl rfl rfl (Nat.le_of_ble_eq_true rfl) ⟨by show kc + 1 ≤ 631930; omega, by show ks + 6 ≤ 7200314; omega⟩ b b' ?_
  refine a_istore dL_law_1090 (Nat.le_of_ble_eq_true rfl) rfl ?_
  refine a_aload_n dL_law_1092 rfl ?_
  refine a_xload_n dL_law_1093 rfl ?_
  refine a_iload dL_law_1094 rfl ?_
  refine a_iconst 1 dL_law_1096 (by decide) ?_
  refine a_iadd dL_law_1097 ?_
  refine a_xald (by decide) dL_law_1098 hi1 ?_
  rw [he1]
  refine lw_callM kw_158 hM dL_law_1099 rfl g0 rfl rfl rfl (Nat.le_of_ble_eq_true rfl) ⟨by show kc + 1 ≤ 631930; omega, by show ks + 6 ≤ 7200314; omega⟩ b' b'' (fun _ => rfl) ?_
  refine a_lstore dL_law_1102 (Nat.le_of_ble_eq_true rfl) rfl ?_
  refine a_aload_n dL_law_1104 rfl ?_
  refine lw_callM kw_97 hT dL_law_1105 rfl g0' rfl rfl rfl (Nat.le_of_ble_eq_true rfl) ⟨by show kc + 1 ≤ 631930; omega, by show ks + 6 ≤ 7200314; omega⟩ b'' b'' (fun _ => rfl) ?_
  refine a_iload dL_law_1108 rfl ?_
  refine a_icmp_eq 1115 dL_law_1110 (by decide) (fun _ => ?_) (fun z => absurd rfl z)
  refine a_iload dL_law_1115 rfl ?_
  refine a_if_ne 1131 dL_law_1117 (by decide) (fun c1117 => ?_) (fun c1117 => ?_)
  · refine a_goto 1581 dL_law_1131 (by decide) ?_
    refine a_drop 6 ?_
    refine a_drop 7 ?_
    exact a_wid (by show kc + 1 ≤ kc + 8; omega) (by show ks + 6 ≤ ks + 64; omega) nx
  · have ha0 := ha c1117
    refine a_aload_n dL_law_1120 rfl ?_
    refine a_iconst 0 dL_law_1121 (by decide) ?_
    refine a_lald dL_law_1122 (aLw_74 b'') one_in ?_
    refine a_lload dL_law_1123 rfl ?_
    refine a_lcmp dL_law_1125 ?_
    refine a_if_eq 1131 dL_law_1126 (by decide) (fun _ => ?_) (fun z => absurd ((lg_cmp_eq _ _).mpr ha0) z)
    refine a_goto 1581 dL_law_1131 (by decide) ?_
    refine a_drop 6 ?_
    refine a_drop 7 ?_
    exact a_wid (by show kc + 1 ≤ kc + 8; omega) (by show ks + 6 ≤ ks + 64; omega) nx
theorem w_rankedServer (hi : i + 2 < X.2.2.2.1 1) (hL : X.2.2.2.1 1 ≤ 1536) (hkc : kc ≤ 600000) (hks : ks ≤ 7000000) {c : Int32} {rb : Int32} (hC : aWr l X mL_rankedServer [0, 55] [.ref 0, .int (X.2.2.2.2 1 (i + 1)), .ref 55] (hx ++ [aLa 1 o]) (some (.int c)) (hx' ++ [aLa 1 o'])) (hM : aWr l X mX7_rankedServer is19 [.ref 0, .int (X.2.2.2.2 1 (i + 1))] hm (some (.int rb)) hm') (hT : aRd l X mX7_thrown is19 [.ref 0] hm' (.int c)) (ha : c = 0 → o' 0 = rb.toInt64) (b : aLk hx hm) (b' : aLk hx' hm) (b'' : aLk hx' hm') (g0 : hm[0]? = some (aOb 7 gs)) (g0' : hm'[0]? = some (aOb 7 gs')) (nx : aJ l X (mLw nm hh) ([], G) (kc + 8) (ks + 64) 1581 (LV i) [] (aLw hx' hm' (aLa 1 o') (aDa 1 d))) : aJ l X (mLw nm hh) ([], G) kc ks 1134 (LV i) [] (aLw hx hm (aLa 1 o) (aDa 1 d)) := by
  have he1 : (nI i + 1).toNatClampNeg = i + 1 := by rw [nI_1]; exact nI_clamp (by omega)
  have he2 : (nI i + 2).toNatClampNeg = i + 2 := by rw [show nI i + 2 = nI (i + 2) from nI_add i 2]; exact nI_clamp (by omega)
  have hi1 : vp_in (nI i + 1) (X.2.2.2.1 1) := by rw [nI_1]; exact vp_in_nI (by omega) (by omega)
  have hi2 : vp_in (nI i + 2) (X.2.2.2.1 1) := by rw [show nI i + 2 = nI (i + 2) from nI_add i 2]; exact vp_in_nI (by omega) (by omega)
  refine a_aload_n dL_law_1134 rfl ?_
  refine a_xload_n dL_law_1135 rfl ?_
  refine a_iload dL_law_1136 rfl ?_
  refine a_iconst 1 dL_law_1138 (by decide) ?_
  refine a_iadd dL_law_1139 ?_
  refine a_xald (by decide) dL_law_1140 hi1 ?_
  rw [he1]
  refine a_aload_n dL_law_1141 rfl ?_
  refine lw_callA kw_159 hC dL_law_1142 rfl rfl rfl rfl (Nat.le_of_ble_eq_true rfl) ⟨by show kc + 1 ≤ 631930; omega, by show ks + 6 ≤ 7200314; omega⟩ b b' ?_
  refine a_istore dL_law_1145 (Nat.le_of_ble_eq_true rfl) rfl ?_
  refine a_aload_n dL_law_1147 rfl ?_
  refine a_xload_n dL_law_1148 rfl ?_
  refine a_iload dL_law_1149 rfl ?_
  refine a_iconst 1 dL_law_1151 (by decide) ?_
  refine a_iadd dL_law_1152 ?_
  refine a_xald (by decide) dL_law_1153 hi1 ?_
  rw [he1]
  refine lw_callM kw_161 hM dL_law_1154 rfl g0 rfl rfl rfl (Nat.le_of_ble_eq_true rfl) ⟨by show kc + 1 ≤ 631930; omega, by show ks + 6 ≤ 7200314; omega⟩ b' b'' (fun _ => rfl) ?_
  refine a_istore dL_law_1157 (Nat.le_of_ble_eq_true rfl) rfl ?_
  refine a_aload_n dL_law_1159 rfl ?_
  refine lw_callM kw_97 hT dL_law_1160 rfl g0' rfl rfl rfl (Nat.le_of_ble_eq_true rfl) ⟨by show kc + 1 ≤ 631930; omega, by show ks + 6 ≤ 7200314; omega⟩ b'' b'' (fun _ => rfl) ?_
  refine a_iload dL_law_1163 rfl ?_
  refine a_icmp_eq 1170 dL_law_1165 (by decide) (fun _ => ?_) (fun z => absurd rfl z)
  refine a_iload dL_law_1170 rfl ?_
  refine a_if_ne 1187 dL_law_1172 (by decide) (fun c1172 => ?_) (fun c1172 => ?_)
  · refine a_goto 1581 dL_law_1187 (by decide) ?_
    refine a_drop 6 ?_
    refine a_drop 7 ?_
    exact a_wid (by show kc + 1 ≤ kc + 8; omega) (by show ks + 6 ≤ ks + 64; omega) nx
  · have ha0 := ha c1172
    refine a_aload_n dL_law_1175 rfl ?_
    refine a_iconst 0 dL_law_1176 (by decide) ?_
    refine a_lald dL_law_1177 (aLw_74 b'') one_in ?_
    refine a_iload dL_law_1178 rfl ?_
    refine a_i2l dL_law_1180 ?_
    refine a_lcmp dL_law_1181 ?_
    refine a_if_eq 1187 dL_law_1182 (by decide) (fun _ => ?_) (fun z => absurd ((lg_cmp_eq _ _).mpr ha0) z)
    refine a_goto 1581 dL_law_1187 (by decide) ?_
    refine a_drop 6 ?_
    refine a_drop 7 ?_
    exact a_wid (by show kc + 1 ≤ kc + 8; omega) (by show ks + 6 ≤ ks + 64; omega) nx
theorem w_pin (hi : i + 2 < X.2.2.2.1 1) (hL : X.2.2.2.1 1 ≤ 1536) (hkc : kc ≤ 600000) (hks : ks ≤ 7000000) {c : Int32} {rb : Int32} (hC : aWr l X mL_pin [0, 55] [.ref 0, .int (X.2.2.2.2 1 (i + 1)), .int (X.2.2.2.2 1 (i + 2)), .ref 55] (hx ++ [aLa 1 o]) (some (.int c)) (hx' ++ [aLa 1 o'])) (hM : aWr l X mX7_pin is19 [.ref 0, .int (X.2.2.2.2 1 (i + 1)), .int (X.2.2.2.2 1 (i + 2))] hm (some (.int rb)) hm') (hT : aRd l X mX7_thrown is19 [.ref 0] hm' (.int c)) (ha : c = 0 → o' 0 = rb.toInt64) (b : aLk hx hm) (b' : aLk hx' hm) (b'' : aLk hx' hm') (g0 : hm[0]? = some (aOb 7 gs)) (g0' : hm'[0]? = some (aOb 7 gs')) (nx : aJ l X (mLw nm hh) ([], G) (kc + 8) (ks + 64) 1581 (LV i) [] (aLw hx' hm' (aLa 1 o') (aDa 1 d))) : aJ l X (mLw nm hh) ([], G) kc ks 1190 (LV i) [] (aLw hx hm (aLa 1 o) (aDa 1 d)) := by
  have he1 : (nI i + 1).toNatClampNeg = i + 1 := by rw [nI_1]; exact nI_clamp (by omega)
  have he2 : (nI i + 2).toNatClampNeg = i + 2 := by rw [show nI i + 2 = nI (i + 2) from nI_add i 2]; exact nI_clamp (by omega)
  have hi1 : vp_in (nI i + 1) (X.2.2.2.1 1) := by rw [nI_1]; exact vp_in_nI (by omega) (by omega)
  have hi2 : vp_in (nI i + 2) (X.2.2.2.1 1) := by rw [show nI i + 2 = nI (i + 2) from nI_add i 2]; exact vp_in_nI (by omega) (by omega)
  refine a_aload_n dL_law_1190 rfl ?_
  refine a_xload_n dL_law_1191 rfl ?_
  refine a_iload dL_law_1192 rfl ?_
  refine a_iconst 1 dL_law_1194 (by decide) ?_
  refine a_iadd dL_law_1195 ?_
  refine a_xald (by decide) dL_law_1196 hi1 ?_
  rw [he1]
  refine a_xload_n dL_law_1197 rfl ?_
  refine a_iload dL_law_1198 rfl ?_
  refine a_iconst 2 dL_law_1200 (by decide) ?_
  refine a_iadd dL_law_1201 ?_
  refine a_xald (by decide) dL_law_1202 hi2 ?_
  rw [he2]
  refine a_aload_n dL_law_1203 rfl ?_
  refine lw_callA kw_162 hC dL_law_1204 rfl rfl rfl rfl (Nat.le_of_ble_eq_true rfl) ⟨by show kc + 3 ≤ 631930; omega, by show ks + 18 ≤ 7200314; omega⟩ b b' ?_
  refine a_istore dL_law_1207 (Nat.le_of_ble_eq_true rfl) rfl ?_
  refine a_aload_n dL_law_1209 rfl ?_
  refine a_xload_n dL_law_1210 rfl ?_
  refine a_iload dL_law_1211 rfl ?_
  refine a_iconst 1 dL_law_1213 (by decide) ?_
  refine a_iadd dL_law_1214 ?_
  refine a_xald (by decide) dL_law_1215 hi1 ?_
  rw [he1]
  refine a_xload_n dL_law_1216 rfl ?_
  refine a_iload dL_law_1217 rfl ?_
  refine a_iconst 2 dL_law_1219 (by decide) ?_
  refine a_iadd dL_law_1220 ?_
  refine a_xald (by decide) dL_law_1221 hi2 ?_
  rw [he2]
  refine lw_callM kw_164 hM dL_law_1222 rfl g0 rfl rfl rfl (Nat.le_of_ble_eq_true rfl) ⟨by show kc + 3 ≤ 631930; omega, by show ks + 18 ≤ 7200314; omega⟩ b' b'' (fun _ => rfl) ?_
  refine a_istore dL_law_1225 (Nat.le_of_ble_eq_true rfl) rfl ?_
  refine a_aload_n dL_law_1227 rfl ?_
  refine lw_callM kw_97 hT dL_law_1228 rfl g0' rfl rfl rfl (Nat.le_of_ble_eq_true rfl) ⟨by show kc + 3 ≤ 631930; omega, by show ks + 18 ≤ 7200314; omega⟩ b'' b'' (fun _ => rfl) ?_
  refine a_iload dL_law_1231 rfl ?_
  refine a_icmp_eq 1238 dL_law_1233 (by decide) (fun _ => ?_) (fun z => absurd rfl z)
  refine a_iload dL_law_1238 rfl ?_
  refine a_if_ne 1255 dL_law_1240 (by decide) (fun c1240 => ?_) (fun c1240 => ?_)
  · refine a_goto 1581 dL_law_1255 (by decide) ?_
    refine a_drop 6 ?_
    refine a_drop 7 ?_
    exact a_wid (by show kc + 3 ≤ kc + 8; omega) (by show ks + 18 ≤ ks + 64; omega) nx
  · have ha0 := ha c1240
    refine a_aload_n dL_law_1243 rfl ?_
    refine a_iconst 0 dL_law_1244 (by decide) ?_
    refine a_lald dL_law_1245 (aLw_74 b'') one_in ?_
    refine a_iload dL_law_1246 rfl ?_
    refine a_i2l dL_law_1248 ?_
    refine a_lcmp dL_law_1249 ?_
    refine a_if_eq 1255 dL_law_1250 (by decide) (fun _ => ?_) (fun z => absurd ((lg_cmp_eq _ _).mpr ha0) z)
    refine a_goto 1581 dL_law_1255 (by decide) ?_
    refine a_drop 6 ?_
    refine a_drop 7 ?_
    exact a_wid (by show kc + 3 ≤ kc + 8; omega) (by show ks + 18 ≤ ks + 64; omega) nx
theorem w_unpin (hi : i + 2 < X.2.2.2.1 1) (hL : X.2.2.2.1 1 ≤ 1536) (hkc : kc ≤ 600000) (hks : ks ≤ 7000000) {c : Int32} {rb : Int32} (hC : aWr l X mL_unpin [0, 55] [.ref 0, .int (X.2.2.2.2 1 (i + 1)), .ref 55] (hx ++ [aLa 1 o]) (some (.int c)) (hx' ++ [aLa 1 o'])) (hM : aWr l X mX7_unpin is19 [.ref 0, .int (X.2.2.2.2 1 (i + 1))] hm (some (.int rb)) hm') (hT : aRd l X mX7_thrown is19 [.ref 0] hm' (.int c)) (ha : c = 0 → o' 0 = rb.toInt64) (b : aLk hx hm) (b' : aLk hx' hm) (b'' : aLk hx' hm') (g0 : hm[0]? = some (aOb 7 gs)) (g0' : hm'[0]? = some (aOb 7 gs')) (nx : aJ l X (mLw nm hh) ([], G) (kc + 8) (ks + 64) 1581 (LV i) [] (aLw hx' hm' (aLa 1 o') (aDa 1 d))) : aJ l X (mLw nm hh) ([], G) kc ks 1258 (LV i) [] (aLw hx hm (aLa 1 o) (aDa 1 d)) := by
  have he1 : (nI i + 1).toNatClampNeg = i + 1 := by rw [nI_1]; exact nI_clamp (by omega)
  have he2 : (nI i + 2).toNatClampNeg = i + 2 := by rw [show nI i + 2 = nI (i + 2) from nI_add i 2]; exact nI_clamp (by omega)
  have hi1 : vp_in (nI i + 1) (X.2.2.2.1 1) := by rw [nI_1]; exact vp_in_nI (by omega) (by omega)
  have hi2 : vp_in (nI i + 2) (X.2.2.2.1 1) := by rw [show nI i + 2 = nI (i + 2) from nI_add i 2]; exact vp_in_nI (by omega) (by omega)
  refine a_aload_n dL_law_1258 rfl ?_
  refine a_xload_n dL_law_1259 rfl ?_
  refine a_iload dL_law_1260 rfl ?_
  refine a_iconst 1 dL_law_1262 (by decide) ?_
  refine a_iadd dL_law_1263 ?_
  refine a_xald (by decide) dL_law_1264 hi1 ?_
  rw [he1]
  refine a_aload_n dL_law_1265 rfl ?_
  refine lw_callA kw_165 hC dL_law_1266 rfl rfl rfl rfl (Nat.le_of_ble_eq_true rfl) ⟨by show kc + 1 ≤ 631930; omega, by show ks + 6 ≤ 7200314; omega⟩ b b' ?_
  refine a_istore dL_law_1269 (Nat.le_of_ble_eq_true rfl) rfl ?_
  refine a_aload_n dL_law_1271 rfl ?_
  refine a_xload_n dL_law_1272 rfl ?_
  refine a_iload dL_law_1273 rfl ?_
  refine a_iconst 1 dL_law_1275 (by decide) ?_
  refine a_iadd dL_law_1276 ?_
  refine a_xald (by decide) dL_law_1277 hi1 ?_
  rw [he1]
  refine lw_callM kw_167 hM dL_law_1278 rfl g0 rfl rfl rfl (Nat.le_of_ble_eq_true rfl) ⟨by show kc + 1 ≤ 631930; omega, by show ks + 6 ≤ 7200314; omega⟩ b' b'' (fun _ => rfl) ?_
  refine a_istore dL_law_1281 (Nat.le_of_ble_eq_true rfl) rfl ?_
  refine a_aload_n dL_law_1283 rfl ?_
  refine lw_callM kw_97 hT dL_law_1284 rfl g0' rfl rfl rfl (Nat.le_of_ble_eq_true rfl) ⟨by show kc + 1 ≤ 631930; omega, by show ks + 6 ≤ 7200314; omega⟩ b'' b'' (fun _ => rfl) ?_
  refine a_iload dL_law_1287 rfl ?_
  refine a_icmp_eq 1294 dL_law_1289 (by decide) (fun _ => ?_) (fun z => absurd rfl z)
  refine a_iload dL_law_1294 rfl ?_
  refine a_if_ne 1311 dL_law_1296 (by decide) (fun c1296 => ?_) (fun c1296 => ?_)
  · refine a_goto 1581 dL_law_1311 (by decide) ?_
    refine a_drop 6 ?_
    refine a_drop 7 ?_
    exact a_wid (by show kc + 1 ≤ kc + 8; omega) (by show ks + 6 ≤ ks + 64; omega) nx
  · have ha0 := ha c1296
    refine a_aload_n dL_law_1299 rfl ?_
    refine a_iconst 0 dL_law_1300 (by decide) ?_
    refine a_lald dL_law_1301 (aLw_74 b'') one_in ?_
    refine a_iload dL_law_1302 rfl ?_
    refine a_i2l dL_law_1304 ?_
    refine a_lcmp dL_law_1305 ?_
    refine a_if_eq 1311 dL_law_1306 (by decide) (fun _ => ?_) (fun z => absurd ((lg_cmp_eq _ _).mpr ha0) z)
    refine a_goto 1581 dL_law_1311 (by decide) ?_
    refine a_drop 6 ?_
    refine a_drop 7 ?_
    exact a_wid (by show kc + 1 ≤ kc + 8; omega) (by show ks + 6 ≤ ks + 64; omega) nx
theorem w_pinHottest (hi : i + 2 < X.2.2.2.1 1) (hL : X.2.2.2.1 1 ≤ 1536) (hkc : kc ≤ 600000) (hks : ks ≤ 7000000) {c : Int32} {rb : Int32} (hC : aWr l X mL_pinHottest [0, 55] [.ref 0, .ref 55] (hx ++ [aLa 1 o]) (some (.int c)) (hx' ++ [aLa 1 o'])) (hM : aWr l X mX7_pinHottest is19 [.ref 0] hm (some (.int rb)) hm') (hT : aRd l X mX7_thrown is19 [.ref 0] hm' (.int c)) (ha : c = 0 → o' 0 = rb.toInt64) (b : aLk hx hm) (b' : aLk hx' hm) (b'' : aLk hx' hm') (g0 : hm[0]? = some (aOb 7 gs)) (g0' : hm'[0]? = some (aOb 7 gs')) (nx : aJ l X (mLw nm hh) ([], G) (kc + 8) (ks + 64) 1581 (LV i) [] (aLw hx' hm' (aLa 1 o') (aDa 1 d))) : aJ l X (mLw nm hh) ([], G) kc ks 1314 (LV i) [] (aLw hx hm (aLa 1 o) (aDa 1 d)) := by
  have he1 : (nI i + 1).toNatClampNeg = i + 1 := by rw [nI_1]; exact nI_clamp (by omega)
  have he2 : (nI i + 2).toNatClampNeg = i + 2 := by rw [show nI i + 2 = nI (i + 2) from nI_add i 2]; exact nI_clamp (by omega)
  have hi1 : vp_in (nI i + 1) (X.2.2.2.1 1) := by rw [nI_1]; exact vp_in_nI (by omega) (by omega)
  have hi2 : vp_in (nI i + 2) (X.2.2.2.1 1) := by rw [show nI i + 2 = nI (i + 2) from nI_add i 2]; exact vp_in_nI (by omega) (by omega)
  refine a_aload_n dL_law_1314 rfl ?_
  refine a_aload_n dL_law_1315 rfl ?_
  refine lw_callA kw_168 hC dL_law_1316 rfl rfl rfl rfl (Nat.le_of_ble_eq_true rfl) ⟨by show kc + 3 ≤ 631930; omega, by show ks + 18 ≤ 7200314; omega⟩ b b' ?_
  refine a_istore dL_law_1319 (Nat.le_of_ble_eq_true rfl) rfl ?_
  refine a_aload_n dL_law_1321 rfl ?_
  refine lw_callM kw_171 hM dL_law_1322 rfl g0 rfl rfl rfl (Nat.le_of_ble_eq_true rfl) ⟨by show kc + 3 ≤ 631930; omega, by show ks + 18 ≤ 7200314; omega⟩ b' b'' (fun _ => rfl) ?_
  refine a_istore dL_law_1325 (Nat.le_of_ble_eq_true rfl) rfl ?_
  refine a_aload_n dL_law_1327 rfl ?_
  refine lw_callM kw_97 hT dL_law_1328 rfl g0' rfl rfl rfl (Nat.le_of_ble_eq_true rfl) ⟨by show kc + 3 ≤ 631930; omega, by show ks + 18 ≤ 7200314; omega⟩ b'' b'' (fun _ => rfl) ?_
  refine a_iload dL_law_1331 rfl ?_
  refine a_icmp_eq 1338 dL_law_1333 (by decide) (fun _ => ?_) (fun z => absurd rfl z)
  refine a_iload dL_law_1338 rfl ?_
  refine a_if_ne 1355 dL_law_1340 (by decide) (fun c1340 => ?_) (fun c1340 => ?_)
  · refine a_goto 1581 dL_law_1355 (by decide) ?_
    refine a_drop 6 ?_
    refine a_drop 7 ?_
    exact a_wid (by show kc + 3 ≤ kc + 8; omega) (by show ks + 18 ≤ ks + 64; omega) nx
  · have ha0 := ha c1340
    refine a_aload_n dL_law_1343 rfl ?_
    refine a_iconst 0 dL_law_1344 (by decide) ?_
    refine a_lald dL_law_1345 (aLw_74 b'') one_in ?_
    refine a_iload dL_law_1346 rfl ?_
    refine a_i2l dL_law_1348 ?_
    refine a_lcmp dL_law_1349 ?_
    refine a_if_eq 1355 dL_law_1350 (by decide) (fun _ => ?_) (fun z => absurd ((lg_cmp_eq _ _).mpr ha0) z)
    refine a_goto 1581 dL_law_1355 (by decide) ?_
    refine a_drop 6 ?_
    refine a_drop 7 ?_
    exact a_wid (by show kc + 3 ≤ kc + 8; omega) (by show ks + 18 ≤ ks + 64; omega) nx
theorem w_trackedKeys (hkc : kc ≤ 600000) (hks : ks ≤ 7000000) {x : Int32} (hC : aRd l X mX6_trackedKeys [0] [.ref 0] hx (.int x)) (hM : aWr l X mX7_trackedKeys is19 [.ref 0] hm (some (.int x)) hm') (b : aLk hx hm) (b'' : aLk hx hm') (f0 : hx[0]? = some (aOb 6 fs)) (g0 : hm[0]? = some (aOb 7 gs)) (nx : aJ l X (mLw nm hh) ([], G) (kc + 8) (ks + 64) 1581 (LV i) [] (aLw hx hm' (aLa 1 o) (aDa 1 d))) : aJ l X (mLw nm hh) ([], G) kc ks 1358 (LV i) [] (aLw hx hm (aLa 1 o) (aDa 1 d)) := by
  refine a_aload_n dL_law_1358 rfl ?_
  refine lw_callC kw_172 hC dL_law_1359 rfl f0 rfl rfl rfl (Nat.le_of_ble_eq_true rfl) ⟨by show kc + 0 ≤ 631930; omega, by show ks + 0 ≤ 7200314; omega⟩ b (fun _ => rfl) ?_
  refine a_aload_n dL_law_1362 rfl ?_
  refine lw_callM kw_175 hM dL_law_1363 rfl g0 rfl rfl rfl (Nat.le_of_ble_eq_true rfl) ⟨by show kc + 0 ≤ 631930; omega, by show ks + 0 ≤ 7200314; omega⟩ b b'' (fun _ => rfl) ?_
  refine a_icmp_eq 1581 dL_law_1366 (by decide) (fun _ => ?_) (fun z => absurd rfl z)
  exact a_wid (by show kc + 0 ≤ kc + 8; omega) (by show ks + 0 ≤ ks + 64; omega) nx
theorem w_hotKey (hi : i + 2 < X.2.2.2.1 1) (hL : X.2.2.2.1 1 ≤ 1536) (hkc : kc ≤ 600000) (hks : ks ≤ 7000000) {c : Int32} {rb : Int32} (hC : aWr l X mL_hotKey [0, 55] [.ref 0, .int (X.2.2.2.2 1 (i + 1)), .ref 55] (hx ++ [aLa 1 o]) (some (.int c)) (hx' ++ [aLa 1 o'])) (hM : aWr l X mX7_hotKey is19 [.ref 0, .int (X.2.2.2.2 1 (i + 1))] hm (some (.int rb)) hm') (hT : aRd l X mX7_thrown is19 [.ref 0] hm' (.int c)) (ha : c = 0 → o' 0 = rb.toInt64) (b : aLk hx hm) (b' : aLk hx' hm) (b'' : aLk hx' hm') (g0 : hm[0]? = some (aOb 7 gs)) (g0' : hm'[0]? = some (aOb 7 gs')) (nx : aJ l X (mLw nm hh) ([], G) (kc + 8) (ks + 64) 1581 (LV i) [] (aLw hx' hm' (aLa 1 o') (aDa 1 d))) : aJ l X (mLw nm hh) ([], G) kc ks 1371 (LV i) [] (aLw hx hm (aLa 1 o) (aDa 1 d)) := by
  have he1 : (nI i + 1).toNatClampNeg = i + 1 := by rw [nI_1]; exact nI_clamp (by omega)
  have he2 : (nI i + 2).toNatClampNeg = i + 2 := by rw [show nI i + 2 = nI (i + 2) from nI_add i 2]; exact nI_clamp (by omega)
  have hi1 : vp_in (nI i + 1) (X.2.2.2.1 1) := by rw [nI_1]; exact vp_in_nI (by omega) (by omega)
  have hi2 : vp_in (nI i + 2) (X.2.2.2.1 1) := by rw [show nI i + 2 = nI (i + 2) from nI_add i 2]; exact vp_in_nI (by omega) (by omega)
  refine a_aload_n dL_law_1371 rfl ?_
  refine a_xload_n dL_law_1372 rfl ?_
  refine a_iload dL_law_1373 rfl ?_
  refine a_iconst 1 dL_law_1375 (by decide) ?_
  refine a_iadd dL_law_1376 ?_
  refine a_xald (by decide) dL_law_1377 hi1 ?_
  rw [he1]
  refine a_aload_n dL_law_1378 rfl ?_
  refine lw_callA kw_176 hC dL_law_1379 rfl rfl rfl rfl (Nat.le_of_ble_eq_true rfl) ⟨by show kc + 1 ≤ 631930; omega, by show ks + 6 ≤ 7200314; omega⟩ b b' ?_
  refine a_istore dL_law_1382 (Nat.le_of_ble_eq_true rfl) rfl ?_
  refine a_aload_n dL_law_1384 rfl ?_
  refine a_xload_n dL_law_1385 rfl ?_
  refine a_iload dL_law_1386 rfl ?_
  refine a_iconst 1 dL_law_1388 (by decide) ?_
  refine a_iadd dL_law_1389 ?_
  refine a_xald (by decide) dL_law_1390 hi1 ?_
  rw [he1]
  refine lw_callM kw_178 hM dL_law_1391 rfl g0 rfl rfl rfl (Nat.le_of_ble_eq_true rfl) ⟨by show kc + 1 ≤ 631930; omega, by show ks + 6 ≤ 7200314; omega⟩ b' b'' (fun _ => rfl) ?_
  refine a_istore dL_law_1394 (Nat.le_of_ble_eq_true rfl) rfl ?_
  refine a_aload_n dL_law_1396 rfl ?_
  refine lw_callM kw_97 hT dL_law_1397 rfl g0' rfl rfl rfl (Nat.le_of_ble_eq_true rfl) ⟨by show kc + 1 ≤ 631930; omega, by show ks + 6 ≤ 7200314; omega⟩ b'' b'' (fun _ => rfl) ?_
  refine a_iload dL_law_1400 rfl ?_
  refine a_icmp_eq 1407 dL_law_1402 (by decide) (fun _ => ?_) (fun z => absurd rfl z)
  refine a_iload dL_law_1407 rfl ?_
  refine a_if_ne 1424 dL_law_1409 (by decide) (fun c1409 => ?_) (fun c1409 => ?_)
  · refine a_goto 1581 dL_law_1424 (by decide) ?_
    refine a_drop 6 ?_
    refine a_drop 7 ?_
    exact a_wid (by show kc + 1 ≤ kc + 8; omega) (by show ks + 6 ≤ ks + 64; omega) nx
  · have ha0 := ha c1409
    refine a_aload_n dL_law_1412 rfl ?_
    refine a_iconst 0 dL_law_1413 (by decide) ?_
    refine a_lald dL_law_1414 (aLw_74 b'') one_in ?_
    refine a_iload dL_law_1415 rfl ?_
    refine a_i2l dL_law_1417 ?_
    refine a_lcmp dL_law_1418 ?_
    refine a_if_eq 1424 dL_law_1419 (by decide) (fun _ => ?_) (fun z => absurd ((lg_cmp_eq _ _).mpr ha0) z)
    refine a_goto 1581 dL_law_1424 (by decide) ?_
    refine a_drop 6 ?_
    refine a_drop 7 ?_
    exact a_wid (by show kc + 1 ≤ kc + 8; omega) (by show ks + 6 ≤ ks + 64; omega) nx
theorem w_hotCount (hi : i + 2 < X.2.2.2.1 1) (hL : X.2.2.2.1 1 ≤ 1536) (hkc : kc ≤ 600000) (hks : ks ≤ 7000000) {c : Int32} {rb : Int64} (hC : aWr l X mL_hotCount [0, 55] [.ref 0, .int (X.2.2.2.2 1 (i + 1)), .ref 55] (hx ++ [aLa 1 o]) (some (.int c)) (hx' ++ [aLa 1 o'])) (hM : aWr l X mX7_hotCount is19 [.ref 0, .int (X.2.2.2.2 1 (i + 1))] hm (some (.long rb)) hm') (hT : aRd l X mX7_thrown is19 [.ref 0] hm' (.int c)) (ha : c = 0 → o' 0 = rb) (b : aLk hx hm) (b' : aLk hx' hm) (b'' : aLk hx' hm') (g0 : hm[0]? = some (aOb 7 gs)) (g0' : hm'[0]? = some (aOb 7 gs')) (nx : aJ l X (mLw nm hh) ([], G) (kc + 8) (ks + 64) 1581 (LV i) [] (aLw hx' hm' (aLa 1 o') (aDa 1 d))) : aJ l X (mLw nm hh) ([], G) kc ks 1427 (LV i) [] (aLw hx hm (aLa 1 o) (aDa 1 d)) := by
  have he1 : (nI i + 1).toNatClampNeg = i + 1 := by rw [nI_1]; exact nI_clamp (by omega)
  have he2 : (nI i + 2).toNatClampNeg = i + 2 := by rw [show nI i + 2 = nI (i + 2) from nI_add i 2]; exact nI_clamp (by omega)
  have hi1 : vp_in (nI i + 1) (X.2.2.2.1 1) := by rw [nI_1]; exact vp_in_nI (by omega) (by omega)
  have hi2 : vp_in (nI i + 2) (X.2.2.2.1 1) := by rw [show nI i + 2 = nI (i + 2) from nI_add i 2]; exact vp_in_nI (by omega) (by omega)
  refine a_aload_n dL_law_1427 rfl ?_
  refine a_xload_n dL_law_1428 rfl ?_
  refine a_iload dL_law_1429 rfl ?_
  refine a_iconst 1 dL_law_1431 (by decide) ?_
  refine a_iadd dL_law_1432 ?_
  refine a_xald (by decide) dL_law_1433 hi1 ?_
  rw [he1]
  refine a_aload_n dL_law_1434 rfl ?_
  refine lw_callA kw_179 hC dL_law_1435 rfl rfl rfl rfl (Nat.le_of_ble_eq_true rfl) ⟨by show kc + 1 ≤ 631930; omega, by show ks + 6 ≤ 7200314; omega⟩ b b' ?_
  refine a_istore dL_law_1438 (Nat.le_of_ble_eq_true rfl) rfl ?_
  refine a_aload_n dL_law_1440 rfl ?_
  refine a_xload_n dL_law_1441 rfl ?_
  refine a_iload dL_law_1442 rfl ?_
  refine a_iconst 1 dL_law_1444 (by decide) ?_
  refine a_iadd dL_law_1445 ?_
  refine a_xald (by decide) dL_law_1446 hi1 ?_
  rw [he1]
  refine lw_callM kw_181 hM dL_law_1447 rfl g0 rfl rfl rfl (Nat.le_of_ble_eq_true rfl) ⟨by show kc + 1 ≤ 631930; omega, by show ks + 6 ≤ 7200314; omega⟩ b' b'' (fun _ => rfl) ?_
  refine a_lstore dL_law_1450 (Nat.le_of_ble_eq_true rfl) rfl ?_
  refine a_aload_n dL_law_1452 rfl ?_
  refine lw_callM kw_97 hT dL_law_1453 rfl g0' rfl rfl rfl (Nat.le_of_ble_eq_true rfl) ⟨by show kc + 1 ≤ 631930; omega, by show ks + 6 ≤ 7200314; omega⟩ b'' b'' (fun _ => rfl) ?_
  refine a_iload dL_law_1456 rfl ?_
  refine a_icmp_eq 1463 dL_law_1458 (by decide) (fun _ => ?_) (fun z => absurd rfl z)
  refine a_iload dL_law_1463 rfl ?_
  refine a_if_ne 1479 dL_law_1465 (by decide) (fun c1465 => ?_) (fun c1465 => ?_)
  · refine a_goto 1581 dL_law_1479 (by decide) ?_
    refine a_drop 6 ?_
    refine a_drop 7 ?_
    exact a_wid (by show kc + 1 ≤ kc + 8; omega) (by show ks + 6 ≤ ks + 64; omega) nx
  · have ha0 := ha c1465
    refine a_aload_n dL_law_1468 rfl ?_
    refine a_iconst 0 dL_law_1469 (by decide) ?_
    refine a_lald dL_law_1470 (aLw_74 b'') one_in ?_
    refine a_lload dL_law_1471 rfl ?_
    refine a_lcmp dL_law_1473 ?_
    refine a_if_eq 1479 dL_law_1474 (by decide) (fun _ => ?_) (fun z => absurd ((lg_cmp_eq _ _).mpr ha0) z)
    refine a_goto 1581 dL_law_1479 (by decide) ?_
    refine a_drop 6 ?_
    refine a_drop 7 ?_
    exact a_wid (by show kc + 1 ≤ kc + 8; omega) (by show ks + 6 ≤ ks + 64; omega) nx
theorem w_hotError (hi : i + 2 < X.2.2.2.1 1) (hL : X.2.2.2.1 1 ≤ 1536) (hkc : kc ≤ 600000) (hks : ks ≤ 7000000) {c : Int32} {rb : Int64} (hC : aWr l X mL_hotError [0, 55] [.ref 0, .int (X.2.2.2.2 1 (i + 1)), .ref 55] (hx ++ [aLa 1 o]) (some (.int c)) (hx' ++ [aLa 1 o'])) (hM : aWr l X mX7_hotError is19 [.ref 0, .int (X.2.2.2.2 1 (i + 1))] hm (some (.long rb)) hm') (hT : aRd l X mX7_thrown is19 [.ref 0] hm' (.int c)) (ha : c = 0 → o' 0 = rb) (b : aLk hx hm) (b' : aLk hx' hm) (b'' : aLk hx' hm') (g0 : hm[0]? = some (aOb 7 gs)) (g0' : hm'[0]? = some (aOb 7 gs')) (nx : aJ l X (mLw nm hh) ([], G) (kc + 8) (ks + 64) 1581 (LV i) [] (aLw hx' hm' (aLa 1 o') (aDa 1 d))) : aJ l X (mLw nm hh) ([], G) kc ks 1482 (LV i) [] (aLw hx hm (aLa 1 o) (aDa 1 d)) := by
  have he1 : (nI i + 1).toNatClampNeg = i + 1 := by rw [nI_1]; exact nI_clamp (by omega)
  have he2 : (nI i + 2).toNatClampNeg = i + 2 := by rw [show nI i + 2 = nI (i + 2) from nI_add i 2]; exact nI_clamp (by omega)
  have hi1 : vp_in (nI i + 1) (X.2.2.2.1 1) := by rw [nI_1]; exact vp_in_nI (by omega) (by omega)
  have hi2 : vp_in (nI i + 2) (X.2.2.2.1 1) := by rw [show nI i + 2 = nI (i + 2) from nI_add i 2]; exact vp_in_nI (by omega) (by omega)
  refine a_aload_n dL_law_1482 rfl ?_
  refine a_xload_n dL_law_1483 rfl ?_
  refine a_iload dL_law_1484 rfl ?_
  refine a_iconst 1 dL_law_1486 (by decide) ?_
  refine a_iadd dL_law_1487 ?_
  refine a_xald (by decide) dL_law_1488 hi1 ?_
  rw [he1]
  refine a_aload_n dL_law_1489 rfl ?_
  refine lw_callA kw_182 hC dL_law_1490 rfl rfl rfl rfl (Nat.le_of_ble_eq_true rfl) ⟨by show kc + 1 ≤ 631930; omega, by show ks + 6 ≤ 7200314; omega⟩ b b' ?_
  refine a_istore dL_law_1493 (Nat.le_of_ble_eq_true rfl) rfl ?_
  refine a_aload_n dL_law_1495 rfl ?_
  refine a_xload_n dL_law_1496 rfl ?_
  refine a_iload dL_law_1497 rfl ?_
  refine a_iconst 1 dL_law_1499 (by decide) ?_
  refine a_iadd dL_law_1500 ?_
  refine a_xald (by decide) dL_law_1501 hi1 ?_
  rw [he1]
  refine lw_callM kw_184 hM dL_law_1502 rfl g0 rfl rfl rfl (Nat.le_of_ble_eq_true rfl) ⟨by show kc + 1 ≤ 631930; omega, by show ks + 6 ≤ 7200314; omega⟩ b' b'' (fun _ => rfl) ?_
  refine a_lstore dL_law_1505 (Nat.le_of_ble_eq_true rfl) rfl ?_
  refine a_aload_n dL_law_1507 rfl ?_
  refine lw_callM kw_97 hT dL_law_1508 rfl g0' rfl rfl rfl (Nat.le_of_ble_eq_true rfl) ⟨by show kc + 1 ≤ 631930; omega, by show ks + 6 ≤ 7200314; omega⟩ b'' b'' (fun _ => rfl) ?_
  refine a_iload dL_law_1511 rfl ?_
  refine a_icmp_eq 1518 dL_law_1513 (by decide) (fun _ => ?_) (fun z => absurd rfl z)
  refine a_iload dL_law_1518 rfl ?_
  refine a_if_ne 1534 dL_law_1520 (by decide) (fun c1520 => ?_) (fun c1520 => ?_)
  · refine a_goto 1581 dL_law_1534 (by decide) ?_
    refine a_drop 6 ?_
    refine a_drop 7 ?_
    exact a_wid (by show kc + 1 ≤ kc + 8; omega) (by show ks + 6 ≤ ks + 64; omega) nx
  · have ha0 := ha c1520
    refine a_aload_n dL_law_1523 rfl ?_
    refine a_iconst 0 dL_law_1524 (by decide) ?_
    refine a_lald dL_law_1525 (aLw_74 b'') one_in ?_
    refine a_lload dL_law_1526 rfl ?_
    refine a_lcmp dL_law_1528 ?_
    refine a_if_eq 1534 dL_law_1529 (by decide) (fun _ => ?_) (fun z => absurd ((lg_cmp_eq _ _).mpr ha0) z)
    refine a_goto 1581 dL_law_1534 (by decide) ?_
    refine a_drop 6 ?_
    refine a_drop 7 ?_
    exact a_wid (by show kc + 1 ≤ kc + 8; omega) (by show ks + 6 ≤ ks + 64; omega) nx
theorem w_undo (hi : i + 2 < X.2.2.2.1 1) (hL : X.2.2.2.1 1 ≤ 1536) (hkc : kc ≤ 600000) (hks : ks ≤ 7000000) {c : Int32} {rb : Int32} (hC : aWr l X mL_undo [0, 55] [.ref 0, .ref 55] (hx ++ [aLa 1 o]) (some (.int c)) (hx' ++ [aLa 1 o'])) (hM : aWr l X mX7_undo is19 [.ref 0] hm (some (.int rb)) hm') (hT : aRd l X mX7_thrown is19 [.ref 0] hm' (.int c)) (ha : c = 0 → o' 0 = rb.toInt64) (b : aLk hx hm) (b' : aLk hx' hm) (b'' : aLk hx' hm') (g0 : hm[0]? = some (aOb 7 gs)) (g0' : hm'[0]? = some (aOb 7 gs')) (nx : aJ l X (mLw nm hh) ([], G) (kc + 8) (ks + 64) 1581 (LV i) [] (aLw hx' hm' (aLa 1 o') (aDa 1 d))) : aJ l X (mLw nm hh) ([], G) kc ks 1537 (LV i) [] (aLw hx hm (aLa 1 o) (aDa 1 d)) := by
  have he1 : (nI i + 1).toNatClampNeg = i + 1 := by rw [nI_1]; exact nI_clamp (by omega)
  have he2 : (nI i + 2).toNatClampNeg = i + 2 := by rw [show nI i + 2 = nI (i + 2) from nI_add i 2]; exact nI_clamp (by omega)
  have hi1 : vp_in (nI i + 1) (X.2.2.2.1 1) := by rw [nI_1]; exact vp_in_nI (by omega) (by omega)
  have hi2 : vp_in (nI i + 2) (X.2.2.2.1 1) := by rw [show nI i + 2 = nI (i + 2) from nI_add i 2]; exact vp_in_nI (by omega) (by omega)
  refine a_aload_n dL_law_1537 rfl ?_
  refine a_aload_n dL_law_1538 rfl ?_
  refine lw_callA kw_185 hC dL_law_1539 rfl rfl rfl rfl (Nat.le_of_ble_eq_true rfl) ⟨by show kc + 1 ≤ 631930; omega, by show ks + 6 ≤ 7200314; omega⟩ b b' ?_
  refine a_istore dL_law_1542 (Nat.le_of_ble_eq_true rfl) rfl ?_
  refine a_aload_n dL_law_1544 rfl ?_
  refine lw_callM kw_187 hM dL_law_1545 rfl g0 rfl rfl rfl (Nat.le_of_ble_eq_true rfl) ⟨by show kc + 1 ≤ 631930; omega, by show ks + 6 ≤ 7200314; omega⟩ b' b'' (fun _ => rfl) ?_
  refine a_istore dL_law_1548 (Nat.le_of_ble_eq_true rfl) rfl ?_
  refine a_aload_n dL_law_1550 rfl ?_
  refine lw_callM kw_97 hT dL_law_1551 rfl g0' rfl rfl rfl (Nat.le_of_ble_eq_true rfl) ⟨by show kc + 1 ≤ 631930; omega, by show ks + 6 ≤ 7200314; omega⟩ b'' b'' (fun _ => rfl) ?_
  refine a_iload dL_law_1554 rfl ?_
  refine a_icmp_eq 1561 dL_law_1556 (by decide) (fun _ => ?_) (fun z => absurd rfl z)
  refine a_iload dL_law_1561 rfl ?_
  refine a_if_ne 1578 dL_law_1563 (by decide) (fun c1563 => ?_) (fun c1563 => ?_)
  · refine a_goto 1581 dL_law_1578 (by decide) ?_
    refine a_drop 6 ?_
    refine a_drop 7 ?_
    exact a_wid (by show kc + 1 ≤ kc + 8; omega) (by show ks + 6 ≤ ks + 64; omega) nx
  · have ha0 := ha c1563
    refine a_aload_n dL_law_1566 rfl ?_
    refine a_iconst 0 dL_law_1567 (by decide) ?_
    refine a_lald dL_law_1568 (aLw_74 b'') one_in ?_
    refine a_iload dL_law_1569 rfl ?_
    refine a_i2l dL_law_1571 ?_
    refine a_lcmp dL_law_1572 ?_
    refine a_if_eq 1578 dL_law_1573 (by decide) (fun _ => ?_) (fun z => absurd ((lg_cmp_eq _ _).mpr ha0) z)
    refine a_goto 1581 dL_law_1578 (by decide) ?_
    refine a_drop 6 ?_
    refine a_drop 7 ?_
    exact a_wid (by show kc + 1 ≤ kc + 8; omega) (by show ks + 6 ≤ ks + 64; omega) nx
end LOP
