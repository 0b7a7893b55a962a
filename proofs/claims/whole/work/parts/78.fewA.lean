/-! fewest: every order of seven, part A -/
theorem zw_7A : zw_ch 7 (((zw_pr 6).drop 0).take 120) = true := by decide +kernel
