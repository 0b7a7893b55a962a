/-! fewest: every order -/
theorem zw_7 : zw_ch 7 (zw_pr 6) = true := by
  refine zw_ch_td 120 _ zw_7A ?_
  refine zw_ch_td 120 _ zw_7B ?_
  rw [List.drop_drop]
  refine zw_ch_td 120 _ zw_7C ?_
  rw [List.drop_drop]
  refine zw_ch_td 120 _ zw_7D ?_
  rw [List.drop_drop]
  refine zw_ch_td 120 _ zw_7E ?_
  rw [List.drop_drop]
  refine zw_ch_td 120 _ zw_7F ?_
  rw [List.drop_drop]
  decide +kernel
theorem zw_every {n : Nat} (hn : 3 ≤ n ∧ n ≤ 7) {o : Nat → Int} (x : isP n o) : zw_ok n (zl n o) = true := by
  have mm := zl_mem n o x
  have key : zw_ch n (zw_pr (Nat.sub n 1)) = true := by
    rcases (show n = 3 ∨ n = 4 ∨ n = 5 ∨ n = 6 ∨ n = 7 by omega) with rfl | rfl | rfl | rfl | rfl
    · exact zw_3
    · exact zw_4
    · exact zw_5
    · exact zw_6
    · exact zw_7
  obtain ⟨k, rfl⟩ : ∃ k, n = k + 1 := ⟨n - 1, by omega⟩
  exact zw_ch_m _ key _ mm
