/-! the reference: its small methods -/
theorem m_in (d : Nat) (τ : TT) (h : HT) (a : Nat) (v lo hi : Int) (rv : -2147483648 ≤ v ∧ v ≤ 2147483647) (rlo : -2147483648 ≤ lo ∧ lo ≤ 2147483647) (rhi : -2147483648 ≤ hi ∧ hi ≤ 2147483647) : S_ mX12_in d 0 0 [.inr (some a), .inl v, .inl lo, .inl hi] τ h (Zi τ fun r h' => r = (if lo ≤ v ∧ v ≤ hi then 1 else 0) ∧ h' = h) := by
  refine S_go (k := 0) (ls := [some (.inr (some a)), some (.inl v), some (.inl lo), some (.inl hi)]) (by decide) rfl (Nat.le_of_ble_eq_true rfl) rfl ?_
  refine G_iload_n (i := 1) dX12_in_0 rfl rfl ?_
  refine G_iload_n (i := 2) dX12_in_1 rfl rfl ?_
  suffices K_3 : ∀ x_2 : Int, x_2 = (if v < lo then 0 else (if hi < v then 0 else 1)) → G_ mX12_in d 0 0 15 [some (.inr (some a)), some (.inl v), some (.inl lo), some (.inl hi)] [.inl x_2] τ h (Zi τ fun r h' => r = (if lo ≤ v ∧ v ≤ hi then 1 else 0) ∧ h' = h) by
    refine G_icmp_lt (tgt := 14) dX12_in_2 (by decide) (by omega) (by omega) (fun c_1 => ?_) (fun c_1 => ?_)
    · refine G_iconst dX12_in_14 ?_
      exact K_3 _ (if_pos c_1).symm
    · refine G_iload_n (i := 1) dX12_in_5 rfl rfl ?_
      refine G_iload_n (i := 3) dX12_in_6 rfl rfl ?_
      refine G_icmp_gt (tgt := 14) dX12_in_7 (by decide) (by omega) (by omega) (fun c_4 => ?_) (fun c_4 => ?_)
      · refine G_iconst dX12_in_14 ?_
        exact K_3 _ ((if_neg c_1).trans (if_pos c_4)).symm
      · refine G_iconst dX12_in_10 ?_
        refine G_goto (tgt := 15) dX12_in_11 (by decide) ?_
        exact K_3 _ ((if_neg c_1).trans (if_neg c_4)).symm
  intro x_2 ex_2
  refine G_zretZ rfl (by omega) dX12_in_15 ?_
  exact ⟨by omega, rfl⟩

theorem m_abs (d : Nat) (τ : TT) (h : HT) (a : Nat) (v : Int) (rv : -2147483648 ≤ v ∧ v ≤ 2147483647) : S_ mX12_abs d 0 0 [.inr (some a), .inl v] τ h (Zi τ fun r h' => r = (if v < 0 then -v else v) ∧ h' = h) := by
  refine S_go (k := 0) (ls := [some (.inr (some a)), some (.inl v)]) (by decide) rfl (Nat.le_of_ble_eq_true rfl) rfl ?_
  refine G_iload_n (i := 1) dX12_abs_0 rfl rfl ?_
  suffices K_3 : ∀ x_2 : Int, x_2 = (if 0 ≤ v then v else -v) → G_ mX12_abs d 0 0 10 [some (.inr (some a)), some (.inl v)] [.inl x_2] τ h (Zi τ fun r h' => r = (if v < 0 then -v else v) ∧ h' = h) by
    refine G_if_ge (tgt := 9) dX12_abs_1 (by decide) (by omega) (fun c_1 => ?_) (fun c_1 => ?_)
    · refine G_iload_n (i := 1) dX12_abs_9 rfl rfl ?_
      exact K_3 _ (if_pos c_1).symm
    · refine G_iload_n (i := 1) dX12_abs_4 rfl rfl ?_
      refine G_ineg dX12_abs_5 ?_
      refine G_goto (tgt := 10) dX12_abs_6 (by decide) ?_
      exact K_3 _ (if_neg c_1).symm
  intro x_2 ex_2
  refine G_iretZ rfl dX12_abs_10 ?_
  exact ⟨by omega, rfl⟩

theorem m_isPlace (d : Nat) (τ : TT) (h : HT) (hT : TK τ) (p : Int) (rp : -2147483648 ≤ p ∧ p ≤ 2147483647) (hn : 0 ≤ h 81 1 ∧ h 81 1 ≤ 1000) : S_ mX12_isPlace (d + 1) 0 0 [.inr (some 81), .inl p] τ h (Zi τ fun r h' => r = (if 0 ≤ p ∧ p ≤ h 81 1 - 1 then 1 else 0) ∧ h' = h) := by
  refine S_go (k := 0) (ls := [some (.inr (some 81)), some (.inl p)]) (by decide) rfl (Nat.le_of_ble_eq_true rfl) rfl ?_
  refine G_aload_n (i := 0) dX12_isPlace_0 rfl rfl ?_
  refine G_iload_n (i := 1) dX12_isPlace_1 rfl rfl ?_
  refine G_iconst dX12_isPlace_2 ?_
  refine G_aload_n (i := 0) dX12_isPlace_3 rfl rfl ?_
  refine G_getI (v := h 81 1) fX12_13 rfl dX12_isPlace_4 (o81 hT) rfl ?_
  refine G_iconst dX12_isPlace_7 ?_
  refine G_isub dX12_isPlace_8 ?_
  refine G_cVq (as := [.inl p, .inl 0, .inl ((h 81 1) - 1)]) qX12_195 (m_in d τ _ 81 p 0 ((h 81 1) - 1) (by omega) (by decide) (by omega)) rfl rfl (Nat.le_of_ble_eq_true rfl) (o81 hT) dX12_isPlace_9 ?_
  refine G_zretZ rfl b01 dX12_isPlace_12 ?_
  exact ⟨rfl, rfl⟩

theorem m_isPerson (d : Nat) (τ : TT) (h : HT) (hT : TK τ) (p : Int) (rp : -2147483648 ≤ p ∧ p ≤ 2147483647) (hn : 0 ≤ h 81 0 ∧ h 81 0 ≤ 1000) : S_ mX12_isPerson (d + 1) 0 0 [.inr (some 81), .inl p] τ h (Zi τ fun r h' => r = (if 0 ≤ p ∧ p ≤ h 81 0 - 1 then 1 else 0) ∧ h' = h) := by
  refine S_go (k := 0) (ls := [some (.inr (some 81)), some (.inl p)]) (by decide) rfl (Nat.le_of_ble_eq_true rfl) rfl ?_
  refine G_aload_n (i := 0) dX12_isPerson_0 rfl rfl ?_
  refine G_iload_n (i := 1) dX12_isPerson_1 rfl rfl ?_
  refine G_iconst dX12_isPerson_2 ?_
  refine G_aload_n (i := 0) dX12_isPerson_3 rfl rfl ?_
  refine G_getI (v := h 81 0) fX12_7 rfl dX12_isPerson_4 (o81 hT) rfl ?_
  refine G_iconst dX12_isPerson_7 ?_
  refine G_isub dX12_isPerson_8 ?_
  refine G_cVq (as := [.inl p, .inl 0, .inl ((h 81 0) - 1)]) qX12_195 (m_in d τ _ 81 p 0 ((h 81 0) - 1) (by omega) (by decide) (by omega)) rfl rfl (Nat.le_of_ble_eq_true rfl) (o81 hT) dX12_isPerson_9 ?_
  refine G_zretZ rfl b01 dX12_isPerson_12 ?_
  exact ⟨rfl, rfl⟩

theorem m_after (d : Nat) (τ : TT) (h : HT) (hT : TK τ) (p : Int) (rp : -2147483648 ≤ p ∧ p ≤ 2147483646) (hn : 0 ≤ h 81 1 ∧ h 81 1 ≤ 1000) : S_ mX12_after d 0 0 [.inr (some 81), .inl p] τ h (Zi τ fun r h' => r = (if p + 1 = h 81 1 then 0 else p + 1) ∧ h' = h) := by
  refine S_go (k := 0) (ls := [some (.inr (some 81)), some (.inl p)]) (by decide) rfl (Nat.le_of_ble_eq_true rfl) rfl ?_
  refine G_iload_n (i := 1) dX12_after_0 rfl rfl ?_
  refine G_iconst dX12_after_1 ?_
  refine G_iadd dX12_after_2 ?_
  refine G_aload_n (i := 0) dX12_after_3 rfl rfl ?_
  refine G_getI (v := h 81 1) fX12_13 rfl dX12_after_4 (o81 hT) rfl ?_
  suffices K_3 : ∀ x_2 : Int, x_2 = (if (p + 1) = (h 81 1) then 0 else p + 1) → G_ mX12_after d 0 0 17 [some (.inr (some 81)), some (.inl p)] [.inl x_2] τ h (Zi τ fun r h' => r = (if p + 1 = h 81 1 then 0 else p + 1) ∧ h' = h) by
    refine G_icmp_ne (tgt := 14) dX12_after_7 (by decide) (by omega) (by omega) (fun c_1 => ?_) (fun c_1 => ?_)
    · refine G_iload_n (i := 1) dX12_after_14 rfl rfl ?_
      refine G_iconst dX12_after_15 ?_
      refine G_iadd dX12_after_16 ?_
      exact K_3 _ (if_neg c_1).symm
    · refine G_iconst dX12_after_10 ?_
      refine G_goto (tgt := 17) dX12_after_11 (by decide) ?_
      exact K_3 _ (if_pos c_1).symm
  intro x_2 ex_2
  refine G_iretZ rfl dX12_after_17 ?_
  exact ⟨by omega, rfl⟩

theorem m_ahead (d : Nat) (τ : TT) (h : HT) (hT : TK τ) (p : Int) (rp : -2147483648 ≤ p ∧ p ≤ 2147483647) : S_ mX12_ahead d 0 0 [.inr (some 81), .inl p] τ h (Zi τ fun r h' => r = (if p = 0 then h 81 1 - 1 else p - 1) ∧ h' = h) := by
  refine S_go (k := 0) (ls := [some (.inr (some 81)), some (.inl p)]) (by decide) rfl (Nat.le_of_ble_eq_true rfl) rfl ?_
  refine G_iload_n (i := 1) dX12_ahead_0 rfl rfl ?_
  suffices K_3 : ∀ x_2 : Int, x_2 = (if p = 0 then (h 81 1) - 1 else p - 1) → G_ mX12_ahead d 0 0 16 [some (.inr (some 81)), some (.inl p)] [.inl x_2] τ h (Zi τ fun r h' => r = (if p = 0 then h 81 1 - 1 else p - 1) ∧ h' = h) by
    refine G_if_ne (tgt := 13) dX12_ahead_1 (by decide) (by omega) (fun c_1 => ?_) (fun c_1 => ?_)
    · refine G_iload_n (i := 1) dX12_ahead_13 rfl rfl ?_
      refine G_iconst dX12_ahead_14 ?_
      refine G_isub dX12_ahead_15 ?_
      exact K_3 _ (if_neg c_1).symm
    · refine G_aload_n (i := 0) dX12_ahead_4 rfl rfl ?_
      refine G_getI (v := h 81 1) fX12_13 rfl dX12_ahead_5 (o81 hT) rfl ?_
      refine G_iconst dX12_ahead_8 ?_
      refine G_isub dX12_ahead_9 ?_
      refine G_goto (tgt := 16) dX12_ahead_10 (by decide) ?_
      exact K_3 _ (if_pos c_1).symm
  intro x_2 ex_2
  refine G_iretZ rfl dX12_ahead_16 ?_
  exact ⟨by omega, rfl⟩

theorem m_girth (d : Nat) (τ : TT) (h : HT) (hT : TK τ) (hr : 0 ≤ h 81 15 ∧ h 81 15 ≤ 1000) : S_ mX12_girth d 0 0 [.inr (some 81)] τ h (Zi τ fun r h' => r = 10 + (h 81 15).tdiv 3 ∧ h' = h) := by
  refine S_go (k := 0) (ls := [some (.inr (some 81))]) (by decide) rfl (Nat.le_of_ble_eq_true rfl) rfl ?_
  refine G_bipush dX12_girth_0 (by decide) ?_
  refine G_aload_n (i := 0) dX12_girth_2 rfl rfl ?_
  refine G_getI (v := h 81 15) fX12_57 rfl dX12_girth_3 (o81 hT) rfl ?_
  refine G_iconst dX12_girth_6 ?_
  refine G_idiv dX12_girth_7 (by omega) (by decide) ?_
  refine G_iadd dX12_girth_8 ?_
  refine G_iretZ rfl dX12_girth_9 ?_
  exact ⟨rfl, rfl⟩
