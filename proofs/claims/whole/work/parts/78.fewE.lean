/-! fewest: every order of seven, part E -/
theorem zw_7E : zw_ch 7 (((zw_pr 6).drop 480).take 120) = true := by decide +kernel
