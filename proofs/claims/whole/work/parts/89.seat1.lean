/-! set: the class seats, small pieces -/
theorem x_apart (d : Nat) (τ : TT) (h : HT) (hT : TK τ) (a b : Nat) (ha : a < 7) (hb : b < 7) (hr : ∀ k : Nat, k < 7 → 0 ≤ h 62 k ∧ h 62 k ≤ 20) : S_ mX8_apart (d + 1) 0 0 [.inr (some 60), .inl (a : Int), .inl (b : Int)] τ h (Zi τ fun v h' => v = f_ab (h 62 a - h 62 b) ∧ h' = h) := by
  refine S_go (k := 0) (ls := [some (.inr (some 60)), some (.inl (a : Int)), some (.inl (b : Int))]) (by decide) rfl (Nat.le_of_ble_eq_true rfl) rfl ?_
  refine G_aload_n (i := 0) dX8_apart_0 rfl rfl ?_
  refine G_getR fX8_19 rfl dX8_apart_1 (o60 hT) (r60_2 hT) ?_
  refine G_iload_n (i := 1) dX8_apart_4 rfl rfl ?_
  refine G_iald (v := h 62 a) dX8_apart_5 (o62 hT) (by omega) rfl ?_
  have e5_ := hr a (by omega)
  refine G_aload_n (i := 0) dX8_apart_6 rfl rfl ?_
  refine G_getR fX8_19 rfl dX8_apart_7 (o60 hT) (r60_2 hT) ?_
  refine G_iload_n (i := 2) dX8_apart_10 rfl rfl ?_
  refine G_iald (v := h 62 b) dX8_apart_11 (o62 hT) (by omega) rfl ?_
  have e11_ := hr b (by omega)
  refine G_isub dX8_apart_12 ?_
  refine G_cSq (as := [.inl ((h 62 a) - (h 62 b))]) qX8_63 (j_abs d τ h ((h 62 a) - (h 62 b)) (by omega)) rfl rfl (Nat.le_of_ble_eq_true rfl) dX8_apart_13 ?_
  refine G_iretZ rfl dX8_apart_16 ?_
  exact ⟨rfl, rfl⟩

theorem x_numberAt (d : Nat) (τ : TT) (h : HT) (hT : TK τ) (p : Nat) (hp : p < 7) (hb : 0 ≤ h 66 p ∧ h 66 p < 7) : S_ mX8_numberAt d 0 0 [.inr (some 60), .inl (p : Int)] τ h (Zi τ fun v h' => v = h 61 (h 66 p).toNat ∧ h' = h) := by
  refine S_go (k := 0) (ls := [some (.inr (some 60)), some (.inl (p : Int))]) (by decide) rfl (Nat.le_of_ble_eq_true rfl) rfl ?_
  refine G_aload_n (i := 0) dX8_numberAt_0 rfl rfl ?_
  refine G_getR fX8_15 rfl dX8_numberAt_1 (o60 hT) (r60_1 hT) ?_
  refine G_aload_n (i := 0) dX8_numberAt_4 rfl rfl ?_
  refine G_getR fX8_28 rfl dX8_numberAt_5 (o60 hT) (r60_5 hT) ?_
  refine G_iload_n (i := 1) dX8_numberAt_8 rfl rfl ?_
  refine G_iald (v := h 66 p) dX8_numberAt_9 (o66 hT) (by omega) rfl ?_
  refine G_iald (v := h 61 ((h 66 p).toNat)) dX8_numberAt_10 (o61 hT) (by omega) rfl ?_
  refine G_iretZ rfl dX8_numberAt_11 ?_
  exact ⟨rfl, rfl⟩

theorem x_clearS (d : Nat) (τ : TT) (h : HT) (hT : TK τ) : S_ mX8_clear d 0 0 [.inr (some 60)] τ h (Zv τ fun h' => h' = hs_ h 60 0 0) := by
  refine S_go (k := 0) (ls := [some (.inr (some 60))]) (by decide) rfl (Nat.le_of_ble_eq_true rfl) rfl ?_
  refine G_aload_n (i := 0) dX8_clear_0 rfl rfl ?_
  refine G_iconst dX8_clear_1 ?_
  refine G_putI fX8_9 dX8_clear_2 (o60 hT) ?_
  refine G_vretZ rfl dX8_clear_5 ?_
  rfl

theorem x_addG (d : Nat) (τ : TT) (h : HT) (hT : TK τ) (o k : Nat) (ho : ob_ τ o 5) (h126 : 126 ≤ o) (hk : h 60 0 = (k : Int)) (hk7 : k ≤ 7) : S_ mX8_add d 0 0 [.inr (some 60), .inr (some o)] τ h (Zv τ fun h' => h' = if k < 7 then hs_ (hs_ (hs_ (hs_ h 61 k (h o 0)) 62 k (h o 2)) 63 k (h o 3)) 60 0 ((k : Int) + 1) else h) := by
  refine S_go (k := 0) (ls := [some (.inr (some 60)), some (.inr (some o))]) (by decide) rfl (Nat.le_of_ble_eq_true rfl) rfl ?_
  refine G_aload_n (i := 0) dX8_add_0 rfl rfl ?_
  refine G_getI (v := (k : Int)) fX8_9 rfl dX8_add_1 (o60 hT) (hk) ?_
  refine G_bipush dX8_add_4 (by decide) ?_
  refine G_icmp_ge (tgt := 58) dX8_add_6 (by decide) (by omega) (by decide) (fun c_1 => ?_) (fun c_1 => ?_)
  · refine G_vretZ rfl dX8_add_58 ?_
    first | (rw [if_pos (by omega)]; rfl) | (rw [if_neg (by omega)])
  · refine G_aload_n (i := 0) dX8_add_9 rfl rfl ?_
    refine G_getR fX8_15 rfl dX8_add_10 (o60 hT) (r60_1 hT) ?_
    refine G_aload_n (i := 0) dX8_add_13 rfl rfl ?_
    refine G_getI (v := (k : Int)) fX8_9 rfl dX8_add_14 (o60 hT) (hk) ?_
    refine G_aload_n (i := 1) dX8_add_17 rfl rfl ?_
    refine G_getI (v := h o 0) fX8_37 rfl dX8_add_18 ho rfl ?_
    refine G_iastk (((k : Int)).toNat) dX8_add_21 (o61 hT) (by omega) rfl ?_
    refine G_aload_n (i := 0) dX8_add_22 rfl rfl ?_
    refine G_getR fX8_19 rfl dX8_add_23 (o60 hT) (r60_2 hT) ?_
    refine G_aload_n (i := 0) dX8_add_26 rfl rfl ?_
    refine G_getI (v := (k : Int)) fX8_9 rfl dX8_add_27 (o60 hT) ((hs_na (by decide)).trans (hk)) ?_
    refine G_aload_n (i := 1) dX8_add_30 rfl rfl ?_
    refine G_getI (v := h o 2) fX8_42 rfl dX8_add_31 ho (hs_na (by omega)) ?_
    refine G_iastk (((k : Int)).toNat) dX8_add_34 (o62 hT) (by omega) rfl ?_
    refine G_aload_n (i := 0) dX8_add_35 rfl rfl ?_
    refine G_getR fX8_22 rfl dX8_add_36 (o60 hT) (r60_3 hT) ?_
    refine G_aload_n (i := 0) dX8_add_39 rfl rfl ?_
    refine G_getI (v := (k : Int)) fX8_9 rfl dX8_add_40 (o60 hT) ((hs_na (by decide)).trans ((hs_na (by decide)).trans (hk))) ?_
    refine G_aload_n (i := 1) dX8_add_43 rfl rfl ?_
    refine G_getI (v := h o 3) fX8_45 rfl dX8_add_44 ho ((hs_na (by omega)).trans (hs_na (by omega))) ?_
    refine G_iastk (((k : Int)).toNat) dX8_add_47 (o63 hT) (by omega) rfl ?_
    refine G_aload_n (i := 0) dX8_add_48 rfl rfl ?_
    refine G_dup dX8_add_49 ?_
    refine G_getI (v := (k : Int)) fX8_9 rfl dX8_add_50 (o60 hT) ((hs_na (by decide)).trans ((hs_na (by decide)).trans ((hs_na (by decide)).trans (hk)))) ?_
    refine G_iconst dX8_add_53 ?_
    refine G_iadd dX8_add_54 ?_
    refine G_putI fX8_9 dX8_add_55 (o60 hT) ?_
    refine G_vretZ rfl dX8_add_58 ?_
    first | (rw [if_pos (by omega)]; rfl) | (rw [if_neg (by omega)])

def x_gp (P : Nat → Int) : Nat → Int
  | 0 => 0
  | i + 1 => if x_gp P i < P i then P i else x_gp P i
theorem x_gp_r {P : Nat → Int} {n : Nat} (h : ∀ k : Nat, k < n → 0 ≤ P k ∧ P k ≤ 9) : ∀ i : Nat, i ≤ n → 0 ≤ x_gp P i ∧ x_gp P i ≤ 9
  | 0, _ => ⟨Int.le_refl 0, by show (0 : Int) ≤ 9; decide⟩
  | i + 1, hi => by
    have ih := x_gp_r h i (by omega)
    have := h i (by omega)
    show 0 ≤ (if x_gp P i < P i then P i else x_gp P i) ∧ (if x_gp P i < P i then P i else x_gp P i) ≤ 9
    split <;> omega
theorem x_greatest_L (d : Nat) (τ : TT) (h : HT) (hT : TK τ) (n : Nat) (hn : h 60 0 = (n : Int)) (hn7 : n ≤ 7) (hp : ∀ k : Nat, k < n → 0 ≤ h 63 k ∧ h 63 k ≤ 9) : ∀ (n_ : Nat) (i : Nat), n - i < n_ → i ≤ n → G_ mX8_greatestPace (d + 1) 0 0 4 [some (.inr (some 60)), some (.inl (x_gp (h 63) i)), some (.inl (i : Int))] [] τ h (Zi τ fun v h' => v = x_gp (h 63) n ∧ h' = h) := by
  intro n_
  induction n_ with
  | zero => intro i hm_; exact absurd hm_ (Nat.not_lt_zero _)
  | succ n_ ih =>
    intro i hm_ hi
    have gr := x_gp_r hp i hi
    refine G_iload_n (i := 2) dX8_greatestPace_4 rfl rfl ?_
    refine G_aload_n (i := 0) dX8_greatestPace_5 rfl rfl ?_
    refine G_getI (v := (n : Int)) fX8_9 rfl dX8_greatestPace_6 (o60 hT) (hn) ?_
    refine G_icmp_ge (tgt := 29) dX8_greatestPace_9 (by decide) (by omega) (by omega) (fun c_1 => ?_) (fun c_1 => ?_)
    · refine G_iload_n (i := 1) dX8_greatestPace_29 rfl rfl ?_
      refine G_iretZ rfl dX8_greatestPace_30 ?_
      obtain rfl : i = n := by omega
      exact ⟨rfl, rfl⟩
    · refine G_iload_n (i := 1) dX8_greatestPace_12 rfl rfl ?_
      refine G_aload_n (i := 0) dX8_greatestPace_13 rfl rfl ?_
      refine G_getR fX8_22 rfl dX8_greatestPace_14 (o60 hT) (r60_3 hT) ?_
      refine G_iload_n (i := 2) dX8_greatestPace_17 rfl rfl ?_
      refine G_iald (v := h 63 i) dX8_greatestPace_18 (o63 hT) (by omega) rfl ?_
      have e_ := hp i (by omega)
      refine G_cSq (as := [.inl (x_gp (h 63) i), .inl (h 63 i)]) qX8_88 (j_max d τ h (x_gp (h 63) i) (h 63 i) (by omega) (by omega)) rfl rfl (Nat.le_of_ble_eq_true rfl) dX8_greatestPace_19 ?_
      refine G_istore_n (i := 1) (ls' := [some (.inr (some 60)), some (.inl (if (x_gp (h 63) i) < (h 63 i) then h 63 i else x_gp (h 63) i)), some (.inl (i : Int))]) dX8_greatestPace_22 rfl (by decide) rfl ?_
      refine G_iinc (ls' := [some (.inr (some 60)), some (.inl (if (x_gp (h 63) i) < (h 63 i) then h 63 i else x_gp (h 63) i)), some (.inl ((i : Int) + 1))]) dX8_greatestPace_23 (by decide) rfl rfl ?_
      refine G_goto (tgt := 4) dX8_greatestPace_26 (by decide) ?_
      exact ih (i + 1) (by omega) (by omega)

theorem x_greatest (d : Nat) (τ : TT) (h : HT) (hT : TK τ) (n : Nat) (hn : h 60 0 = (n : Int)) (hn7 : n ≤ 7) (hp : ∀ k : Nat, k < n → 0 ≤ h 63 k ∧ h 63 k ≤ 9) : S_ mX8_greatestPace (d + 1) 0 0 [.inr (some 60)] τ h (Zi τ fun v h' => v = x_gp (h 63) n ∧ h' = h) := by
  refine S_go (k := 2) (ls := [some (.inr (some 60)), none, none]) (by decide) rfl (Nat.le_of_ble_eq_true rfl) rfl ?_
  refine G_iconst dX8_greatestPace_0 ?_
  refine G_istore_n (i := 1) (ls' := [some (.inr (some 60)), some (.inl 0), none]) dX8_greatestPace_1 rfl (by decide) rfl ?_
  refine G_iconst dX8_greatestPace_2 ?_
  refine G_istore_n (i := 2) (ls' := [some (.inr (some 60)), some (.inl 0), some (.inl 0)]) dX8_greatestPace_3 rfl (by decide) rfl ?_
  exact x_greatest_L d τ h hT n hn hn7 hp _ 0 (Nat.lt_succ_self _) (Nat.zero_le _)

theorem x_change (d : Nat) (τ : TT) (h : HT) (hT : TK τ) (n p : Nat) (hn : h 60 0 = (n : Int)) (hn7 : 3 ≤ n ∧ n ≤ 7) (hp : p < n) : S_ mX8_change (d + 1) 0 0 [.inr (some 60), .inl (p : Int)] τ h (Zi τ fun v h' => v = h 67 p + h 67 (x_bh (n : Int) (p : Int)).toNat ∧ (∀ j : Nat, j < n → h' 67 j = f_sw n (h 67) p j) ∧ ∀ b j : Nat, b ≠ 67 → h' b j = h b j) := by
  have bh := x_bh_r (n := (n : Int)) (p := (p : Int)) ⟨by omega, by omega⟩
  refine S_go (k := 2) (ls := [some (.inr (some 60)), some (.inl (p : Int)), none, none]) (by decide) rfl (Nat.le_of_ble_eq_true rfl) rfl ?_
  refine G_iload_n (i := 1) dX8_change_0 rfl rfl ?_
  refine G_aload_n (i := 0) dX8_change_1 rfl rfl ?_
  refine G_getI (v := (n : Int)) fX8_9 rfl dX8_change_2 (o60 hT) (hn) ?_
  refine G_cNq (as := [.inl (p : Int), .inl (n : Int)]) qX8_91 (x_behind d τ h (p : Int) (n : Int) (by omega) (by omega)) rfl rfl (Nat.le_of_ble_eq_true rfl) dX8_change_5 ?_
  refine G_istore_n (i := 2) (ls' := [some (.inr (some 60)), some (.inl (p : Int)), some (.inl (x_bh (n : Int) (p : Int))), none]) dX8_change_8 rfl (by decide) rfl ?_
  refine G_aload_n (i := 0) dX8_change_9 rfl rfl ?_
  refine G_getR fX8_31 rfl dX8_change_10 (o60 hT) (r60_6 hT) ?_
  refine G_iload_n (i := 1) dX8_change_13 rfl rfl ?_
  refine G_iald (v := h 67 p) dX8_change_14 (o67 hT) (by omega) rfl ?_
  refine G_istore_n (i := 3) (ls' := [some (.inr (some 60)), some (.inl (p : Int)), some (.inl (x_bh (n : Int) (p : Int))), some (.inl (h 67 p))]) dX8_change_15 rfl (by decide) rfl ?_
  refine G_aload_n (i := 0) dX8_change_16 rfl rfl ?_
  refine G_getR fX8_31 rfl dX8_change_17 (o60 hT) (r60_6 hT) ?_
  refine G_iload_n (i := 1) dX8_change_20 rfl rfl ?_
  refine G_aload_n (i := 0) dX8_change_21 rfl rfl ?_
  refine G_getR fX8_31 rfl dX8_change_22 (o60 hT) (r60_6 hT) ?_
  refine G_iload_n (i := 2) dX8_change_25 rfl rfl ?_
  refine G_iald (v := h 67 ((x_bh (n : Int) (p : Int)).toNat)) dX8_change_26 (o67 hT) (by omega) rfl ?_
  refine G_iastk p dX8_change_27 (o67 hT) (by omega) rfl ?_
  refine G_aload_n (i := 0) dX8_change_28 rfl rfl ?_
  refine G_getR fX8_31 rfl dX8_change_29 (o60 hT) (r60_6 hT) ?_
  refine G_iload_n (i := 2) dX8_change_32 rfl rfl ?_
  refine G_iload_n (i := 3) dX8_change_33 rfl rfl ?_
  refine G_iastk ((x_bh (n : Int) (p : Int)).toNat) dX8_change_34 (o67 hT) (by omega) rfl ?_
  refine G_iload_n (i := 3) dX8_change_35 rfl rfl ?_
  refine G_aload_n (i := 0) dX8_change_36 rfl rfl ?_
  refine G_getR fX8_31 rfl dX8_change_37 (o60 hT) (r60_6 hT) ?_
  refine G_iload_n (i := 1) dX8_change_40 rfl rfl ?_
  refine G_iald (v := (hs_ (hs_ h 67 p (h 67 ((x_bh (n : Int) (p : Int)).toNat))) 67 ((x_bh (n : Int) (p : Int)).toNat) (h 67 p)) 67 p) dX8_change_41 (o67 hT) (by omega) rfl ?_
  refine G_iadd dX8_change_42 ?_
  refine G_iretZ rfl dX8_change_43 ?_
  have eB : (x_bh (n : Int) (p : Int)).toNat = if p + 1 = n then 0 else p + 1 := by unfold x_bh; split <;> split <;> omega
  rw [eB]
  generalize hA : (if p + 1 = n then 0 else p + 1) = A
  have hAp : A ≠ p := by rw [← hA]; split <;> omega
  refine ⟨?_, fun j hj => ?_, fun b j z => by rw [hs_na z, hs_na z]⟩
  · unfold hs_; rw [if_neg (by omega), if_pos (by omega)]
  unfold f_sw hs_
  rw [hA]
  by_cases a : j = p
  · rw [if_neg (by omega), if_pos (by omega), if_pos a]
  · by_cases b : j = A
    · rw [if_pos (by omega), if_neg a, if_pos b]
    · rw [if_neg (by omega), if_neg (by omega), if_neg a, if_neg b]

theorem x_turnS (d : Nat) (τ : TT) (h : HT) (hT : TK τ) (n : Nat) (on : Int) (hon : on = 0 ∨ on = 1) (hn : h 60 0 = (n : Int)) (hn7 : 3 ≤ n ∧ n ≤ 7) : S_ mX8_turn (d + 1) 0 0 [.inr (some 60), .inl on] τ h (Zv τ fun h' => (∀ j : Nat, j < n → h' 67 j = h 67 (f_rot n (if on = 1 then 0 else 1) j)) ∧ ∀ b j : Nat, b ≠ 67 → h' b j = h b j) := by
  refine S_go (k := 1) (ls := [some (.inr (some 60)), some (.inl on), none]) (by decide) rfl (Nat.le_of_ble_eq_true rfl) rfl ?_
  refine G_aload_n (i := 0) dX8_turn_0 rfl rfl ?_
  refine G_getI (v := (n : Int)) fX8_9 rfl dX8_turn_1 (o60 hT) (hn) ?_
  refine G_iconst dX8_turn_4 ?_
  refine G_icmp_ge (tgt := 9) dX8_turn_5 (by decide) (by omega) (by decide) (fun c_1 => ?_) (fun c_1 => ?_)
  · refine G_iload_n (i := 1) dX8_turn_9 rfl rfl ?_
    refine G_if_eq (tgt := 54) dX8_turn_10 (by decide) (by omega) (fun c_2 => ?_) (fun c_2 => ?_)
    · refine G_aload_n (i := 0) dX8_turn_54 rfl rfl ?_
      refine G_getR fX8_31 rfl dX8_turn_55 (o60 hT) (r60_6 hT) ?_
      refine G_iconst dX8_turn_58 ?_
      refine G_iald (v := h 67 0) dX8_turn_59 (o67 hT) (by decide) rfl ?_
      refine G_istore_n (i := 2) (ls' := [some (.inr (some 60)), some (.inl on), some (.inl (h 67 0))]) dX8_turn_60 rfl (by decide) rfl ?_
      refine G_aload_n (i := 0) dX8_turn_61 rfl rfl ?_
      refine G_getR fX8_31 rfl dX8_turn_62 (o60 hT) (r60_6 hT) ?_
      refine G_iconst dX8_turn_65 ?_
      refine G_aload_n (i := 0) dX8_turn_66 rfl rfl ?_
      refine G_getR fX8_31 rfl dX8_turn_67 (o60 hT) (r60_6 hT) ?_
      refine G_iconst dX8_turn_70 ?_
      refine G_aload_n (i := 0) dX8_turn_71 rfl rfl ?_
      refine G_getI (v := (n : Int)) fX8_9 rfl dX8_turn_72 (o60 hT) (hn) ?_
      refine G_iconst dX8_turn_75 ?_
      refine G_isub dX8_turn_76 ?_
      refine G_copyk 1 0 (((n : Int) - 1).toNat) qX8_57 (Nat.le_of_ble_eq_true rfl) dX8_turn_77 (o67 hT) (o67 hT) (by omega) (by omega) (by omega) (by omega) (by omega) rfl rfl rfl ?_
      refine G_aload_n (i := 0) dX8_turn_80 rfl rfl ?_
      refine G_getR fX8_31 rfl dX8_turn_81 (o60 hT) (r60_6 hT) ?_
      refine G_aload_n (i := 0) dX8_turn_84 rfl rfl ?_
      refine G_getI (v := (n : Int)) fX8_9 rfl dX8_turn_85 (o60 hT) ((hf_na (by decide)).trans (hn)) ?_
      refine G_iconst dX8_turn_88 ?_
      refine G_isub dX8_turn_89 ?_
      refine G_iload_n (i := 2) dX8_turn_90 rfl rfl ?_
      refine G_iastk (((n : Int) - 1).toNat) dX8_turn_91 (o67 hT) (by omega) rfl ?_
      refine G_vretZ rfl dX8_turn_92 ?_
      refine ⟨fun j hj => ?_, fun b j z => by rw [hs_na z, hf_na z]⟩
      rw [if_neg (show ¬ on = 1 by omega), show f_rot n 1 j = (if j = n - 1 then 0 else j + 1) from if_neg (by decide)]
      by_cases z : j = n - 1
      · rw [if_pos z, show j = ((n : Int) - 1).toNat by omega, hs_eq]
      · rw [if_neg z, hs_ni (by omega), hf_in (by omega)]; congr 1; omega
    · refine G_aload_n (i := 0) dX8_turn_13 rfl rfl ?_
      refine G_getR fX8_31 rfl dX8_turn_14 (o60 hT) (r60_6 hT) ?_
      refine G_aload_n (i := 0) dX8_turn_17 rfl rfl ?_
      refine G_getI (v := (n : Int)) fX8_9 rfl dX8_turn_18 (o60 hT) (hn) ?_
      refine G_iconst dX8_turn_21 ?_
      refine G_isub dX8_turn_22 ?_
      refine G_iald (v := h 67 (((n : Int) - 1).toNat)) dX8_turn_23 (o67 hT) (by omega) rfl ?_
      refine G_istore_n (i := 2) (ls' := [some (.inr (some 60)), some (.inl on), some (.inl (h 67 (((n : Int) - 1).toNat)))]) dX8_turn_24 rfl (by decide) rfl ?_
      refine G_aload_n (i := 0) dX8_turn_25 rfl rfl ?_
      refine G_getR fX8_31 rfl dX8_turn_26 (o60 hT) (r60_6 hT) ?_
      refine G_iconst dX8_turn_29 ?_
      refine G_aload_n (i := 0) dX8_turn_30 rfl rfl ?_
      refine G_getR fX8_31 rfl dX8_turn_31 (o60 hT) (r60_6 hT) ?_
      refine G_iconst dX8_turn_34 ?_
      refine G_aload_n (i := 0) dX8_turn_35 rfl rfl ?_
      refine G_getI (v := (n : Int)) fX8_9 rfl dX8_turn_36 (o60 hT) (hn) ?_
      refine G_iconst dX8_turn_39 ?_
      refine G_isub dX8_turn_40 ?_
      refine G_copyk 0 1 (((n : Int) - 1).toNat) qX8_57 (Nat.le_of_ble_eq_true rfl) dX8_turn_41 (o67 hT) (o67 hT) (by omega) (by omega) (by omega) (by omega) (by omega) rfl rfl rfl ?_
      rw [hc0dk (f := h 67) (fun j_ => rfl)]
      refine G_aload_n (i := 0) dX8_turn_44 rfl rfl ?_
      refine G_getR fX8_31 rfl dX8_turn_45 (o60 hT) (r60_6 hT) ?_
      refine G_iconst dX8_turn_48 ?_
      refine G_iload_n (i := 2) dX8_turn_49 rfl rfl ?_
      refine G_iastk 0 dX8_turn_50 (o67 hT) (by decide) rfl ?_
      refine G_goto (tgt := 92) dX8_turn_51 (by decide) ?_
      refine G_vretZ rfl dX8_turn_92 ?_
      refine ⟨fun j hj => ?_, fun b j z => by rw [hs_na z, hf_na z]⟩
      rw [if_pos (show on = 1 by omega), show f_rot n 0 j = (if j = 0 then n - 1 else j - 1) from if_pos rfl]
      by_cases z : j = 0
      · subst z; rw [if_pos rfl, hs_eq]; congr 1; omega
      · rw [if_neg z, hs_ni z, hf_in (by omega)]
  · refine G_vretZ rfl dX8_turn_8 ?_
    exact absurd hn7 (by omega)

