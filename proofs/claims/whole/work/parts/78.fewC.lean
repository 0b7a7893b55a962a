/-! fewest: every order of seven, part C -/
theorem zw_7C : zw_ch 7 (((zw_pr 6).drop 240).take 120) = true := by decide +kernel
