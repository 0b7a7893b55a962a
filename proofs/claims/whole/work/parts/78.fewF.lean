/-! fewest: every order of seven, part F -/
theorem zw_7F : zw_ch 7 (((zw_pr 6).drop 600).take 120) = true := by decide +kernel
