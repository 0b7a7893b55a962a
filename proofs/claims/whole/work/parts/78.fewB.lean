/-! fewest: every order of seven, part B -/
theorem zw_7B : zw_ch 7 (((zw_pr 6).drop 120).take 120) = true := by decide +kernel
