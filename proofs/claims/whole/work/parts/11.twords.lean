/-! ===== words of the throws ===== -/
theorem tw_54 : aTw RX6 50 54 "java/lang/IllegalArgumentException" ["java/lang/RuntimeException", "java/lang/Exception"] := by
  refine ⟨kl_X6_50, ini_IllegalArgumentException, ?_, ?_, by decide +kernel, by decide +kernel⟩
  · have h : (vx_atS RX6 54 "java/lang/IllegalArgumentException" ["java/lang/RuntimeException", "java/lang/Exception"]).all (fun w => decide (w ∈ lw_tbl) && aWk w) = true := by decide +kernel
    intro w hw
    have := List.all_eq_true.mp h w hw
    simp only [Bool.and_eq_true, decide_eq_true_eq] at this
    exact this
  · have h : (Cond.classLink RX6 50 "java/lang/IllegalArgumentException" :: Cond.initialized "java/lang/IllegalArgumentException" :: vx_atS RX6 54 "java/lang/IllegalArgumentException" ["java/lang/RuntimeException", "java/lang/Exception"]).all vx_ot = true := by decide +kernel
    exact fun w hw => List.all_eq_true.mp h w hw
theorem tw_105 : aTw RX6 101 105 "java/lang/IllegalStateException" ["java/lang/RuntimeException", "java/lang/Exception"] := by
  refine ⟨kl_X6_101, ini_IllegalStateException, ?_, ?_, by decide +kernel, by decide +kernel⟩
  · have h : (vx_atS RX6 105 "java/lang/IllegalStateException" ["java/lang/RuntimeException", "java/lang/Exception"]).all (fun w => decide (w ∈ lw_tbl) && aWk w) = true := by decide +kernel
    intro w hw
    have := List.all_eq_true.mp h w hw
    simp only [Bool.and_eq_true, decide_eq_true_eq] at this
    exact this
  · have h : (Cond.classLink RX6 101 "java/lang/IllegalStateException" :: Cond.initialized "java/lang/IllegalStateException" :: vx_atS RX6 105 "java/lang/IllegalStateException" ["java/lang/RuntimeException", "java/lang/Exception"]).all vx_ot = true := by decide +kernel
    exact fun w hw => List.all_eq_true.mp h w hw
theorem tw_186 : aTw RX6 182 186 "java/lang/IndexOutOfBoundsException" ["java/lang/RuntimeException", "java/lang/Exception"] := by
  refine ⟨kl_X6_182, ini_IndexOutOfBoundsException, ?_, ?_, by decide +kernel, by decide +kernel⟩
  · have h : (vx_atS RX6 186 "java/lang/IndexOutOfBoundsException" ["java/lang/RuntimeException", "java/lang/Exception"]).all (fun w => decide (w ∈ lw_tbl) && aWk w) = true := by decide +kernel
    intro w hw
    have := List.all_eq_true.mp h w hw
    simp only [Bool.and_eq_true, decide_eq_true_eq] at this
    exact this
  · have h : (Cond.classLink RX6 182 "java/lang/IndexOutOfBoundsException" :: Cond.initialized "java/lang/IndexOutOfBoundsException" :: vx_atS RX6 186 "java/lang/IndexOutOfBoundsException" ["java/lang/RuntimeException", "java/lang/Exception"]).all vx_ot = true := by decide +kernel
    exact fun w hw => List.all_eq_true.mp h w hw
