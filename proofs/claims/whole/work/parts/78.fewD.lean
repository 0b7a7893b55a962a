/-! fewest: every order of seven, part D -/
theorem zw_7D : zw_ch 7 (((zw_pr 6).drop 360).take 120) = true := by decide +kernel
