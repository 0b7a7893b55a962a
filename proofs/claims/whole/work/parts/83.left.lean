/-! fewest: the passes left -/
theorem fd7 {n : Nat} (hn : 3 ≤ n ∧ n ≤ 7) {v : Int} (hv : -1000 ≤ v ∧ v ≤ 1000) : -1000 ≤ v / (n : Int) ∧ v / (n : Int) ≤ 1000 := by
  rcases (show n = 3 ∨ n = 4 ∨ n = 5 ∨ n = 6 ∨ n = 7 by omega) with rfl | rfl | rfl | rfl | rfl <;> omega
theorem x_left_J (d : Nat) (τ : TT) (hT : TK τ) (Z : ZT) (g : HT) (n i a S1 : Nat) (hn : 3 ≤ n ∧ n ≤ 7) (l : List Nat) (aw : AW n (g 58) l) (hi : i < n) (ha : g 58 i = (a : Int) - 32) (K : G_ mX4_passesLeft (d + 1) 0 0 60 [some (.inr (some 55)), some (.inl (n : Int)), some (.inl (S1 : Int)), some (.inl (i : Int)), none] [] τ g (Z)) : ∀ (n_ : Nat) (j : Nat) (s : Nat), n - j < n_ → j ≤ n → zw_row n (a + i) j (l.drop j) s = S1 → G_ mX4_passesLeft (d + 1) 0 0 19 [some (.inr (some 55)), some (.inl (n : Int)), some (.inl (s : Int)), some (.inl (i : Int)), some (.inl (j : Int))] [] τ g (Z) := by
  intro n_
  induction n_ with
  | zero => intro j s hm_; exact absurd hm_ (Nat.not_lt_zero _)
  | succ n_ ih =>
    intro j s hm_ hj er
    refine G_iload dX4_passesLeft_19 rfl ?_
    refine G_iload_n (i := 1) dX4_passesLeft_21 rfl rfl ?_
    refine G_icmp_ge (tgt := 60) dX4_passesLeft_22 (by decide) (by omega) (by omega) (fun c_1 => ?_) (fun c_1 => ?_)
    · obtain rfl : n = j := by omega
      rw [zw_row_e (by rw [aw.1]; exact Nat.le_refl _)] at er
      subst er
      refine G_lsub (ls' := [some (.inr (some 55)), some (.inl (n : Int)), some (.inl (s : Int)), some (.inl (i : Int)), none]) (LS_same (LS_same (LS_same (LS_same (LS_none LS_nil))))) ?_
      exact K
    · refine G_iload_n (i := 2) dX4_passesLeft_25 rfl rfl ?_
      refine G_iload dX4_passesLeft_26 rfl ?_
      refine G_aload_n (i := 0) dX4_passesLeft_28 rfl rfl ?_
      refine G_getR fX4_18 rfl dX4_passesLeft_29 (o55 hT) (r55_2 hT) ?_
      refine G_iload dX4_passesLeft_32 rfl ?_
      refine G_iald (v := g 58 j) dX4_passesLeft_34 (o58 hT) (by omega) rfl ?_
      have e34_ := aw.r (j := j) (by omega)
      refine G_iadd dX4_passesLeft_35 ?_
      refine G_iload_n (i := 3) dX4_passesLeft_36 rfl rfl ?_
      refine G_isub dX4_passesLeft_37 ?_
      refine G_aload_n (i := 0) dX4_passesLeft_38 rfl rfl ?_
      refine G_getR fX4_18 rfl dX4_passesLeft_39 (o55 hT) (r55_2 hT) ?_
      refine G_iload_n (i := 3) dX4_passesLeft_42 rfl rfl ?_
      refine G_iald (v := g 58 i) dX4_passesLeft_43 (o58 hT) (by omega) rfl ?_
      have e43_ := aw.r (j := i) (by omega)
      refine G_isub dX4_passesLeft_44 ?_
      refine G_iload_n (i := 1) dX4_passesLeft_45 rfl rfl ?_
      refine G_cSq (as := [.inl ((((j : Int) + (g 58 j)) - (i : Int)) - (g 58 i)), .inl (n : Int)]) qX4_61 (j_floorDiv d τ g ((((j : Int) + (g 58 j)) - (i : Int)) - (g 58 i)) (n : Int) (by omega) (by omega)) rfl rfl (Nat.le_of_ble_eq_true rfl) dX4_passesLeft_46 ?_
      have qr := fd7 hn (v := ((((j : Int) + (g 58 j)) - (i : Int)) - (g 58 i))) (by omega)
      refine G_cSq (as := [.inl (((((j : Int) + (g 58 j)) - (i : Int)) - (g 58 i)) / (n : Int))]) qX4_66 (j_abs d τ g (((((j : Int) + (g 58 j)) - (i : Int)) - (g 58 i)) / (n : Int)) (by omega)) rfl rfl (Nat.le_of_ble_eq_true rfl) dX4_passesLeft_49 ?_
      refine G_iadd dX4_passesLeft_52 ?_
      refine G_istore_n (i := 2) (ls' := [some (.inr (some 55)), some (.inl (n : Int)), some (.inl ((s : Int) + (f_ab (((((j : Int) + (g 58 j)) - (i : Int)) - (g 58 i)) / (n : Int))))), some (.inl (i : Int)), some (.inl (j : Int))]) dX4_passesLeft_53 rfl (by decide) rfl ?_
      refine G_iinc (ls' := [some (.inr (some 55)), some (.inl (n : Int)), some (.inl ((s : Int) + (f_ab (((((j : Int) + (g 58 j)) - (i : Int)) - (g 58 i)) / (n : Int))))), some (.inl (i : Int)), some (.inl ((j : Int) + 1))]) dX4_passesLeft_54 (by decide) rfl rfl ?_
      refine G_goto (tgt := 19) dX4_passesLeft_57 (by decide) ?_
      obtain ⟨b, b1, b2, b3, b4⟩ := aw.at (j := j) (by omega)
      have eq := zw_q_e (n := n) (a := a + i) (b := b + j) (by omega)
      rw [show (s : Int) + (f_ab (((((j : Int) + (g 58 j)) - (i : Int)) - (g 58 i)) / (n : Int))) = (((s + zw_q n (a + i) (b + j)) : Nat) : Int) from by rw [show ((((j : Int) + (g 58 j)) - (i : Int)) - (g 58 i)) = (((b + j : Nat) : Int) - ((a + i : Nat) : Int)) from by omega, ← eq]; omega]
      exact ih (j + 1) (s + zw_q n (a + i) (b + j)) (by omega) (by omega) (by rw [← zw_row_s b1]; exact er)

theorem x_left_L (d : Nat) (τ : TT) (hT : TK τ) (g : HT) (n T : Nat) (hn : 3 ≤ n ∧ n ≤ 7) (l : List Nat) (aw : AW n (g 58) l) : ∀ (n_ : Nat) (i : Nat) (s : Nat), n - i < n_ → i ≤ n → zw_sum n i (l.drop i) s = T → G_ mX4_passesLeft (d + 1) 0 0 9 [some (.inr (some 55)), some (.inl (n : Int)), some (.inl (s : Int)), some (.inl (i : Int)), none] [] τ g (Zi τ fun v h' => v = (T : Int) ∧ h' = g) := by
  intro n_
  induction n_ with
  | zero => intro i s hm_; exact absurd hm_ (Nat.not_lt_zero _)
  | succ n_ ih =>
    intro i s hm_ hi er
    refine G_iload_n (i := 3) dX4_passesLeft_9 rfl rfl ?_
    refine G_iload_n (i := 1) dX4_passesLeft_10 rfl rfl ?_
    refine G_icmp_ge (tgt := 66) dX4_passesLeft_11 (by decide) (by omega) (by omega) (fun c_1 => ?_) (fun c_1 => ?_)
    · refine G_iload_n (i := 2) dX4_passesLeft_66 rfl rfl ?_
      refine G_iretZ rfl dX4_passesLeft_67 ?_
      obtain rfl : i = n := by omega
      rw [zw_sum_e (by rw [aw.1]; exact Nat.le_refl _)] at er
      subst er
      exact ⟨rfl, rfl⟩
    · refine G_iload_n (i := 3) dX4_passesLeft_14 rfl rfl ?_
      refine G_iconst dX4_passesLeft_15 ?_
      refine G_iadd dX4_passesLeft_16 ?_
      refine G_istore (ls' := [some (.inr (some 55)), some (.inl (n : Int)), some (.inl (s : Int)), some (.inl (i : Int)), some (.inl ((i : Int) + 1))]) dX4_passesLeft_17 (by decide) rfl ?_
      obtain ⟨a, a1, a2, a3, a4⟩ := aw.at (j := i) (by omega)
      refine x_left_J d τ hT _ g n i a (zw_row n (a + i) (i + 1) (l.drop (i + 1)) s) hn l aw (by omega) a2 ?_ _ (i + 1) s (Nat.lt_succ_self _) (by omega) rfl
      refine G_iinc (ls' := [some (.inr (some 55)), some (.inl (n : Int)), some (.inl ((zw_row n (a + i) (i + 1) (l.drop (i + 1)) s) : Int)), some (.inl ((i : Int) + 1)), none]) dX4_passesLeft_60 (by decide) rfl rfl ?_
      refine G_goto (tgt := 9) dX4_passesLeft_63 (by decide) ?_
      refine G_lsub (ls' := [some (.inr (some 55)), some (.inl (n : Int)), some (.inl ((zw_row n (a + i) (i + 1) (l.drop (i + 1)) s) : Int)), some (.inl ((i : Int) + 1)), none]) (LS_same (LS_same (LS_same (LS_same (LS_none LS_nil))))) ?_
      exact ih (i + 1) _ (by omega) (by omega) (by rw [← zw_sum_s a1]; exact er)

theorem x_passesLeft (d : Nat) (τ : TT) (h : HT) (hT : TK τ) (n : Nat) (hn : 3 ≤ n ∧ n ≤ 7) (hr : ∀ j : Nat, j < n → 0 ≤ h 57 j ∧ h 57 j < n) : S_ mX4_passesLeft (d + 1) 0 0 [.inr (some 55), .inl (n : Int)] τ h (Zi τ fun v h' => v = ((zw_L n (zl n (h 57)) : Nat) : Int) ∧ ∀ b j : Nat, b ≠ 58 → h' b j = h b j) := by
  refine S_go (k := 3) (ls := [some (.inr (some 55)), some (.inl (n : Int)), none, none, none]) (by decide) rfl (Nat.le_of_ble_eq_true rfl) rfl ?_
  refine G_aload_n (i := 0) dX4_passesLeft_0 rfl rfl ?_
  refine G_iload_n (i := 1) dX4_passesLeft_1 rfl rfl ?_
  refine G_cVv (as := [.inl (n : Int)]) qX4_57 (x_settleWays d τ h hT n hn hr _ rfl) rfl rfl (Nat.le_of_ble_eq_true rfl) (o55 hT) dX4_passesLeft_2 (fun g q1 => ?_)
  obtain ⟨aw, fr⟩ := q1
  refine G_iconst dX4_passesLeft_5 ?_
  refine G_istore_n (i := 2) (ls' := [some (.inr (some 55)), some (.inl (n : Int)), some (.inl 0), none, none]) dX4_passesLeft_6 rfl (by decide) rfl ?_
  refine G_iconst dX4_passesLeft_7 ?_
  refine G_istore_n (i := 3) (ls' := [some (.inr (some 55)), some (.inl (n : Int)), some (.inl 0), some (.inl 0), none]) dX4_passesLeft_8 rfl (by decide) rfl ?_
  refine G_mono ?_ (x_left_L d τ hT g n (zw_L n (zl n (h 57))) hn _ aw _ 0 0 (Nat.lt_succ_self _) (Nat.zero_le _) rfl)
  rintro r τ2 h2 ⟨rfl, v, rfl, q1, rfl⟩
  exact ⟨rfl, v, rfl, q1, fr⟩

