/-! the class: the cloth -/
theorem x_openC (d : Nat) (τ : TT) (h : HT) (hT : TK τ) (n : Int) : S_ mX1_open (d + 1) 0 0 [.inr (some 13), .inl n, .inr (some 5)] τ h (Zv τ fun h' => h' = hf_ (hs_ (hs_ h 13 0 n) 13 1 0) 17 0 9 (h 5)) := by
  refine S_go (k := 0) (ls := [some (.inr (some 13)), some (.inl n), some (.inr (some 5))]) (by decide) rfl (Nat.le_of_ble_eq_true rfl) rfl ?_
  refine G_aload_n (i := 0) dX1_open_0 rfl rfl ?_
  refine G_iload_n (i := 1) dX1_open_1 rfl rfl ?_
  refine G_putI fX1_9 dX1_open_2 (o13 hT) ?_
  refine G_aload_n (i := 0) dX1_open_5 rfl rfl ?_
  refine G_iconst dX1_open_6 ?_
  refine G_putI fX1_15 dX1_open_7 (o13 hT) ?_
  refine G_aload_n (i := 2) dX1_open_10 rfl rfl ?_
  refine G_iconst dX1_open_11 ?_
  refine G_aload_n (i := 0) dX1_open_12 rfl rfl ?_
  refine G_getR fX1_28 rfl dX1_open_13 (o13 hT) (r13_5 hT) ?_
  refine G_iconst dX1_open_16 ?_
  refine G_bipush dX1_open_17 (by decide) ?_
  refine G_copyk 0 0 9 qX1_31 (Nat.le_of_ble_eq_true rfl) dX1_open_19 (o5 hT) (o17 hT) (by omega) (by omega) (by omega) (by omega) (by omega) rfl rfl rfl ?_
  rw [hc00k (f := h 5) (fun j_ => ((hs_na (by decide)).trans (hs_na (by decide))))]
  refine G_vretZ rfl dX1_open_22 ?_
  rfl

abbrev x_has (h : HT) (r p : Int) : Prop := 0 ≤ r ∧ r < h 13 1 ∧ 0 ≤ p ∧ p < h 13 0
def x_top (h : HT) (r p : Int) : Int := if h 15 (9 * r + p).toNat = 1 ∧ ¬ h 15 (9 * r + x_ah (h 13 0) p).toNat = 2 then h 14 (9 * r + x_bh (h 13 0) p).toNat else h 14 (9 * r + p).toNat
theorem x_hasM (d : Nat) (τ : TT) (h : HT) (hT : TK τ) (r p : Int) (r_r : -2147483648 ≤ r ∧ r ≤ 2147483647) (r_p : -2147483648 ≤ p ∧ p ≤ 2147483647) (hr : 0 ≤ h 13 1 ∧ h 13 1 ≤ 100) (hn : 0 ≤ h 13 0 ∧ h 13 0 ≤ 9) : S_ mX1_has d 0 0 [.inr (some 13), .inl r, .inl p] τ h (Zi τ fun v h' => v = (if x_has h r p then 1 else 0) ∧ h' = h) := by
  refine S_go (k := 0) (ls := [some (.inr (some 13)), some (.inl r), some (.inl p)]) (by decide) rfl (Nat.le_of_ble_eq_true rfl) rfl ?_
  refine G_iload_n (i := 1) dX1_has_0 rfl rfl ?_
  refine G_if_lt (tgt := 28) dX1_has_1 (by decide) (by omega) (fun c_1 => ?_) (fun c_1 => ?_)
  · refine G_iconst dX1_has_28 ?_
    refine G_zretZ rfl (by decide) dX1_has_29 ?_
    exact ⟨by unfold x_has; first | rw [if_pos (by omega)] | rw [if_neg (by omega)], rfl⟩
  · refine G_iload_n (i := 1) dX1_has_4 rfl rfl ?_
    refine G_aload_n (i := 0) dX1_has_5 rfl rfl ?_
    refine G_getI (v := h 13 1) fX1_15 rfl dX1_has_6 (o13 hT) rfl ?_
    refine G_icmp_ge (tgt := 28) dX1_has_9 (by decide) (by omega) (by omega) (fun c_2 => ?_) (fun c_2 => ?_)
    · refine G_iconst dX1_has_28 ?_
      refine G_zretZ rfl (by decide) dX1_has_29 ?_
      exact ⟨by unfold x_has; first | rw [if_pos (by omega)] | rw [if_neg (by omega)], rfl⟩
    · refine G_iload_n (i := 2) dX1_has_12 rfl rfl ?_
      refine G_if_lt (tgt := 28) dX1_has_13 (by decide) (by omega) (fun c_3 => ?_) (fun c_3 => ?_)
      · refine G_iconst dX1_has_28 ?_
        refine G_zretZ rfl (by decide) dX1_has_29 ?_
        exact ⟨by unfold x_has; first | rw [if_pos (by omega)] | rw [if_neg (by omega)], rfl⟩
      · refine G_iload_n (i := 2) dX1_has_16 rfl rfl ?_
        refine G_aload_n (i := 0) dX1_has_17 rfl rfl ?_
        refine G_getI (v := h 13 0) fX1_9 rfl dX1_has_18 (o13 hT) rfl ?_
        refine G_icmp_ge (tgt := 28) dX1_has_21 (by decide) (by omega) (by omega) (fun c_4 => ?_) (fun c_4 => ?_)
        · refine G_iconst dX1_has_28 ?_
          refine G_zretZ rfl (by decide) dX1_has_29 ?_
          exact ⟨by unfold x_has; first | rw [if_pos (by omega)] | rw [if_neg (by omega)], rfl⟩
        · refine G_iconst dX1_has_24 ?_
          refine G_goto (tgt := 29) dX1_has_25 (by decide) ?_
          refine G_zretZ rfl (by decide) dX1_has_29 ?_
          exact ⟨by unfold x_has; first | rw [if_pos (by omega)] | rw [if_neg (by omega)], rfl⟩

theorem x_ribbonAt (d : Nat) (τ : TT) (h : HT) (hT : TK τ) (r p : Int) (hr : 0 ≤ r ∧ r < 100) (hp : 0 ≤ p ∧ p < 9) : S_ mX1_ribbonAt d 0 0 [.inr (some 13), .inl r, .inl p] τ h (Zi τ fun v h' => v = h 14 (9 * r + p).toNat ∧ h' = h) := by
  refine S_go (k := 0) (ls := [some (.inr (some 13)), some (.inl r), some (.inl p)]) (by decide) rfl (Nat.le_of_ble_eq_true rfl) rfl ?_
  refine G_aload_n (i := 0) dX1_ribbonAt_0 rfl rfl ?_
  refine G_getR fX1_18 rfl dX1_ribbonAt_1 (o13 hT) (r13_2 hT) ?_
  refine G_bipush dX1_ribbonAt_4 (by decide) ?_
  refine G_iload_n (i := 1) dX1_ribbonAt_6 rfl rfl ?_
  refine G_imul dX1_ribbonAt_7 ?_
  refine G_iload_n (i := 2) dX1_ribbonAt_8 rfl rfl ?_
  refine G_iadd dX1_ribbonAt_9 ?_
  refine G_iald (v := h 14 (((9 * r) + p).toNat)) dX1_ribbonAt_10 (o14 hT) (by omega) rfl ?_
  refine G_iretZ rfl dX1_ribbonAt_11 ?_
  exact ⟨rfl, rfl⟩

theorem x_markAt (d : Nat) (τ : TT) (h : HT) (hT : TK τ) (r p : Int) (hr : 0 ≤ r ∧ r < 100) (hp : 0 ≤ p ∧ p < 9) : S_ mX1_markAt d 0 0 [.inr (some 13), .inl r, .inl p] τ h (Zi τ fun v h' => v = h 15 (9 * r + p).toNat ∧ h' = h) := by
  refine S_go (k := 0) (ls := [some (.inr (some 13)), some (.inl r), some (.inl p)]) (by decide) rfl (Nat.le_of_ble_eq_true rfl) rfl ?_
  refine G_aload_n (i := 0) dX1_markAt_0 rfl rfl ?_
  refine G_getR fX1_22 rfl dX1_markAt_1 (o13 hT) (r13_3 hT) ?_
  refine G_bipush dX1_markAt_4 (by decide) ?_
  refine G_iload_n (i := 1) dX1_markAt_6 rfl rfl ?_
  refine G_imul dX1_markAt_7 ?_
  refine G_iload_n (i := 2) dX1_markAt_8 rfl rfl ?_
  refine G_iadd dX1_markAt_9 ?_
  refine G_iald (v := h 15 (((9 * r) + p).toNat)) dX1_markAt_10 (o15 hT) (by omega) rfl ?_
  refine G_iretZ rfl dX1_markAt_11 ?_
  exact ⟨rfl, rfl⟩

theorem x_topRibbonM (d : Nat) (τ : TT) (h : HT) (hT : TK τ) (r p : Int) (hr : 0 ≤ r ∧ r < 100) (hp : 0 ≤ p ∧ p < 9) : S_ mX1_topRibbon d 0 0 [.inr (some 13), .inl r, .inl p] τ h (Zi τ fun v h' => v = h 16 (9 * r + p).toNat ∧ h' = h) := by
  refine S_go (k := 0) (ls := [some (.inr (some 13)), some (.inl r), some (.inl p)]) (by decide) rfl (Nat.le_of_ble_eq_true rfl) rfl ?_
  refine G_aload_n (i := 0) dX1_topRibbon_0 rfl rfl ?_
  refine G_getR fX1_25 rfl dX1_topRibbon_1 (o13 hT) (r13_4 hT) ?_
  refine G_bipush dX1_topRibbon_4 (by decide) ?_
  refine G_iload_n (i := 1) dX1_topRibbon_6 rfl rfl ?_
  refine G_imul dX1_topRibbon_7 ?_
  refine G_iload_n (i := 2) dX1_topRibbon_8 rfl rfl ?_
  refine G_iadd dX1_topRibbon_9 ?_
  refine G_iald (v := h 16 (((9 * r) + p).toNat)) dX1_topRibbon_10 (o16 hT) (by omega) rfl ?_
  refine G_iretZ rfl dX1_topRibbon_11 ?_
  exact ⟨rfl, rfl⟩

theorem x_ribbonOnTop (d : Nat) (τ : TT) (h : HT) (hT : TK τ) (r p : Int) (hr : 0 ≤ r ∧ r < 100) (hn : h 13 0 ≤ 9) (hp : 0 ≤ p ∧ p < h 13 0) (hm : ∀ k : Nat, k < 900 → 0 ≤ h 15 k ∧ h 15 k ≤ 2) : S_ mX1_ribbonOnTop (d + 1) 0 0 [.inr (some 13), .inl r, .inl p] τ h (Zi τ fun v h' => v = x_top h r p ∧ h' = h) := by
  refine S_go (k := 1) (ls := [some (.inr (some 13)), some (.inl r), some (.inl p), none]) (by decide) rfl (Nat.le_of_ble_eq_true rfl) rfl ?_
  refine G_aload_n (i := 0) dX1_ribbonOnTop_0 rfl rfl ?_
  refine G_iload_n (i := 1) dX1_ribbonOnTop_1 rfl rfl ?_
  refine G_iload_n (i := 2) dX1_ribbonOnTop_2 rfl rfl ?_
  refine G_cVq (as := [.inl r, .inl p]) qX1_51 (x_markAt d τ h hT r p (by omega) (by omega)) rfl rfl (Nat.le_of_ble_eq_true rfl) (o13 hT) dX1_ribbonOnTop_3 ?_
  have e1_ := hm (9 * r + p).toNat (by omega)
  refine G_iconst dX1_ribbonOnTop_6 ?_
  refine G_icmp_ne (tgt := 31) dX1_ribbonOnTop_7 (by decide) (by omega) (by decide) (fun c_1 => ?_) (fun c_1 => ?_)
  · refine G_iconst dX1_ribbonOnTop_31 ?_
    refine G_istore_n (i := 3) (ls' := [some (.inr (some 13)), some (.inl r), some (.inl p), some (.inl 0)]) dX1_ribbonOnTop_32 rfl (by decide) rfl ?_
    refine G_aload_n (i := 0) dX1_ribbonOnTop_33 rfl rfl ?_
    refine G_iload_n (i := 1) dX1_ribbonOnTop_34 rfl rfl ?_
    refine G_iload_n (i := 3) dX1_ribbonOnTop_35 rfl rfl ?_
    refine G_if_eq (tgt := 50) dX1_ribbonOnTop_36 (by decide) (by decide) (fun _ => ?_) (fun q => absurd q (by decide))
    refine G_iload_n (i := 2) dX1_ribbonOnTop_50 rfl rfl ?_
    refine G_cVq (as := [.inl r, .inl p]) qX1_48 (x_ribbonAt d τ h hT r p (by omega) (by omega)) rfl rfl (Nat.le_of_ble_eq_true rfl) (o13 hT) dX1_ribbonOnTop_51 ?_
    refine G_iretZ rfl dX1_ribbonOnTop_54 ?_
    exact ⟨by unfold x_top; first | rw [if_pos (by omega)] | rw [if_neg (by omega)], rfl⟩
  · refine G_aload_n (i := 0) dX1_ribbonOnTop_10 rfl rfl ?_
    refine G_iload_n (i := 1) dX1_ribbonOnTop_11 rfl rfl ?_
    refine G_iload_n (i := 2) dX1_ribbonOnTop_12 rfl rfl ?_
    refine G_aload_n (i := 0) dX1_ribbonOnTop_13 rfl rfl ?_
    refine G_getI (v := h 13 0) fX1_9 rfl dX1_ribbonOnTop_14 (o13 hT) rfl ?_
    refine G_cNq (as := [.inl p, .inl (h 13 0)]) qX1_54 (x_ahead d τ h p (h 13 0) (by omega) (by omega)) rfl rfl (Nat.le_of_ble_eq_true rfl) dX1_ribbonOnTop_17 ?_
    have b_ := x_ah_r hp
    refine G_cVq (as := [.inl r, .inl (x_ah (h 13 0) p)]) qX1_51 (x_markAt d τ h hT r (x_ah (h 13 0) p) (by omega) (by omega)) rfl rfl (Nat.le_of_ble_eq_true rfl) (o13 hT) dX1_ribbonOnTop_20 ?_
    have e2_ := hm (9 * r + x_ah (h 13 0) p).toNat (by omega)
    refine G_iconst dX1_ribbonOnTop_23 ?_
    refine G_icmp_eq (tgt := 31) dX1_ribbonOnTop_24 (by decide) (by omega) (by decide) (fun c_2 => ?_) (fun c_2 => ?_)
    · refine G_iconst dX1_ribbonOnTop_31 ?_
      refine G_istore_n (i := 3) (ls' := [some (.inr (some 13)), some (.inl r), some (.inl p), some (.inl 0)]) dX1_ribbonOnTop_32 rfl (by decide) rfl ?_
      refine G_aload_n (i := 0) dX1_ribbonOnTop_33 rfl rfl ?_
      refine G_iload_n (i := 1) dX1_ribbonOnTop_34 rfl rfl ?_
      refine G_iload_n (i := 3) dX1_ribbonOnTop_35 rfl rfl ?_
      refine G_if_eq (tgt := 50) dX1_ribbonOnTop_36 (by decide) (by decide) (fun _ => ?_) (fun q => absurd q (by decide))
      refine G_iload_n (i := 2) dX1_ribbonOnTop_50 rfl rfl ?_
      refine G_cVq (as := [.inl r, .inl p]) qX1_48 (x_ribbonAt d τ h hT r p (by omega) (by omega)) rfl rfl (Nat.le_of_ble_eq_true rfl) (o13 hT) dX1_ribbonOnTop_51 ?_
      refine G_iretZ rfl dX1_ribbonOnTop_54 ?_
      exact ⟨by unfold x_top; first | rw [if_pos (by omega)] | rw [if_neg (by omega)], rfl⟩
    · refine G_iconst dX1_ribbonOnTop_27 ?_
      refine G_goto (tgt := 32) dX1_ribbonOnTop_28 (by decide) ?_
      refine G_istore_n (i := 3) (ls' := [some (.inr (some 13)), some (.inl r), some (.inl p), some (.inl 1)]) dX1_ribbonOnTop_32 rfl (by decide) rfl ?_
      refine G_aload_n (i := 0) dX1_ribbonOnTop_33 rfl rfl ?_
      refine G_iload_n (i := 1) dX1_ribbonOnTop_34 rfl rfl ?_
      refine G_iload_n (i := 3) dX1_ribbonOnTop_35 rfl rfl ?_
      refine G_if_eq (tgt := 50) dX1_ribbonOnTop_36 (by decide) (by decide) (fun q => absurd q (by decide)) (fun _ => ?_)
      refine G_iload_n (i := 2) dX1_ribbonOnTop_39 rfl rfl ?_
      refine G_aload_n (i := 0) dX1_ribbonOnTop_40 rfl rfl ?_
      refine G_getI (v := h 13 0) fX1_9 rfl dX1_ribbonOnTop_41 (o13 hT) rfl ?_
      refine G_cNq (as := [.inl p, .inl (h 13 0)]) qX1_57 (x_behind d τ h p (h 13 0) (by omega) (by omega)) rfl rfl (Nat.le_of_ble_eq_true rfl) dX1_ribbonOnTop_44 ?_
      have b2_ := x_bh_r hp
      refine G_goto (tgt := 51) dX1_ribbonOnTop_47 (by decide) ?_
      refine G_cVq (as := [.inl r, .inl (x_bh (h 13 0) p)]) qX1_48 (x_ribbonAt d τ h hT r (x_bh (h 13 0) p) (by omega) (by omega)) rfl rfl (Nat.le_of_ble_eq_true rfl) (o13 hT) dX1_ribbonOnTop_51 ?_
      refine G_iretZ rfl dX1_ribbonOnTop_54 ?_
      exact ⟨by unfold x_top; first | rw [if_pos (by omega)] | rw [if_neg (by omega)], rfl⟩

def x_ly1 (h : HT) (R N : Nat) : HT := hf_ (hf_ h 14 (9 * R) (9 * R + N) (fun j => h 7 (j - 9 * R))) 15 (9 * R) (9 * R + N) (fun j => h 9 (j - 9 * R))
def x_ly2 (h : HT) (R i : Nat) : HT := hf_ h 16 (9 * R) (9 * R + i) (fun j => x_top h (R : Int) (((j - 9 * R : Nat) : Int)))
theorem x_ly2_o {h : HT} {R i b j : Nat} (hb : b ≠ 16) : x_ly2 h R i b j = h b j := hf_na hb
theorem x_top_c {h g : HT} {r p : Int} (e0 : g 13 0 = h 13 0) (e1 : ∀ k, g 14 k = h 14 k) (e2 : ∀ k, g 15 k = h 15 k) : x_top g r p = x_top h r p := by
  unfold x_top; rw [e0, e1, e1, e2, e2]
theorem x_lay_L (d : Nat) (τ : TT) (hT : TK τ) (g : HT) (R N : Nat) (hn : g 13 0 = N ∧ N ≤ 9) (hR : g 13 1 = R ∧ R < 100) (hm : ∀ k : Nat, k < 900 → 0 ≤ g 15 k ∧ g 15 k ≤ 2) : ∀ (n_ : Nat) (i : Nat), N - i < n_ → i ≤ N → G_ mX1_lay (d + 2) 0 0 58 [some (.inr (some 13)), some (.inr (some 6)), some (.inl (i : Int))] [] τ (x_ly2 g R i) (Zv τ fun h' => h' = hs_ (x_ly2 g R N) 13 1 ((R : Int) + 1)) := by
  intro n_
  induction n_ with
  | zero => intro i hm_; exact absurd hm_ (Nat.not_lt_zero _)
  | succ n_ ih =>
    intro i hm_ hi
    refine G_iload_n (i := 2) dX1_lay_58 rfl rfl ?_
    refine G_aload_n (i := 0) dX1_lay_59 rfl rfl ?_
    refine G_getI (v := (N : Int)) fX1_9 rfl dX1_lay_60 (o13 hT) (((x_ly2_o (by decide)).trans hn.1)) ?_
    refine G_icmp_ge (tgt := 95) dX1_lay_63 (by decide) (by omega) (by omega) (fun c_1 => ?_) (fun c_1 => ?_)
    · refine G_aload_n (i := 0) dX1_lay_95 rfl rfl ?_
      refine G_dup dX1_lay_96 ?_
      refine G_getI (v := (R : Int)) fX1_15 rfl dX1_lay_97 (o13 hT) (((x_ly2_o (by decide)).trans hR.1)) ?_
      refine G_iconst dX1_lay_100 ?_
      refine G_iadd dX1_lay_101 ?_
      refine G_putI fX1_15 dX1_lay_102 (o13 hT) ?_
      refine G_vretZ rfl dX1_lay_105 ?_
      obtain rfl : i = N := by omega
      rfl
    · refine G_aload_n (i := 0) dX1_lay_66 rfl rfl ?_
      refine G_getR fX1_25 rfl dX1_lay_67 (o13 hT) (r13_4 hT) ?_
      refine G_bipush dX1_lay_70 (by decide) ?_
      refine G_aload_n (i := 0) dX1_lay_72 rfl rfl ?_
      refine G_getI (v := (R : Int)) fX1_15 rfl dX1_lay_73 (o13 hT) (((x_ly2_o (by decide)).trans hR.1)) ?_
      refine G_imul dX1_lay_76 ?_
      refine G_iload_n (i := 2) dX1_lay_77 rfl rfl ?_
      refine G_iadd dX1_lay_78 ?_
      refine G_aload_n (i := 0) dX1_lay_79 rfl rfl ?_
      refine G_aload_n (i := 0) dX1_lay_80 rfl rfl ?_
      refine G_getI (v := (R : Int)) fX1_15 rfl dX1_lay_81 (o13 hT) (((x_ly2_o (by decide)).trans hR.1)) ?_
      refine G_iload_n (i := 2) dX1_lay_84 rfl rfl ?_
      refine G_cVq (as := [.inl (R : Int), .inl (i : Int)]) qX1_43 (x_ribbonOnTop d τ (x_ly2 g R i) hT (R : Int) (i : Int) (by omega) (by rw [x_ly2_o (by decide)]; omega) (by rw [x_ly2_o (by decide)]; omega) (fun k hk => by rw [x_ly2_o (by decide)]; exact hm k hk)) rfl rfl (Nat.le_of_ble_eq_true rfl) (o13 hT) dX1_lay_85 ?_
      refine G_iastk (((9 * (R : Int)) + (i : Int)).toNat) dX1_lay_88 (o16 hT) (by omega) rfl ?_
      refine G_iinc (ls' := [some (.inr (some 13)), some (.inr (some 6)), some (.inl ((i : Int) + 1))]) dX1_lay_89 (by decide) rfl rfl ?_
      refine G_goto (tgt := 58) dX1_lay_92 (by decide) ?_
      rw [show (9 * (R : Int) + (i : Int)).toNat = 9 * R + i by omega]
      have ex : hs_ (x_ly2 g R i) 16 (9 * R + i) (x_top (x_ly2 g R i) (R : Int) (i : Int)) = x_ly2 g R (i + 1) := hf_snoc (by omega) (by rw [x_top_c (h := g) (g := x_ly2 g R i) (x_ly2_o (by decide)) (fun k => x_ly2_o (by decide)) (fun k => x_ly2_o (by decide)), show 9 * R + i - 9 * R = i by omega])
      rw [ex]
      exact ih (i + 1) (by omega) (by omega)

theorem x_layC (d : Nat) (τ : TT) (h : HT) (hT : TK τ) (R N : Nat) (hn : h 13 0 = N ∧ N ≤ 9) (hR : h 13 1 = R ∧ R < 100) (hm : ∀ k : Nat, k < 900 → 0 ≤ h 15 k ∧ h 15 k ≤ 2) (hm9 : ∀ k : Nat, k < N → 0 ≤ h 9 k ∧ h 9 k ≤ 2) : S_ mX1_lay (d + 2) 0 0 [.inr (some 13), .inr (some 6)] τ h (Zv τ fun h' => h' = hs_ (x_ly2 (x_ly1 h R N) R N) 13 1 ((R : Int) + 1)) := by
  have hm1 : ∀ k : Nat, k < 900 → 0 ≤ x_ly1 h R N 15 k ∧ x_ly1 h R N 15 k ≤ 2 := by
    intro k hk
    unfold x_ly1
    by_cases z : 9 * R ≤ k ∧ k < 9 * R + N
    · rw [hf_in z]; exact hm9 _ (by omega)
    · rw [hf_ni z, hf_na (by decide)]; exact hm k hk
  refine S_go (k := 1) (ls := [some (.inr (some 13)), some (.inr (some 6)), none]) (by decide) rfl (Nat.le_of_ble_eq_true rfl) rfl ?_
  refine G_aload_n (i := 0) dX1_lay_0 rfl rfl ?_
  refine G_getI (v := (R : Int)) fX1_15 rfl dX1_lay_1 (o13 hT) (hR.1) ?_
  refine G_bipush dX1_lay_4 (by decide) ?_
  refine G_icmp_lt (tgt := 10) dX1_lay_6 (by decide) (by omega) (by decide) (fun c_1 => ?_) (fun c_1 => ?_)
  · refine G_aload_n (i := 1) dX1_lay_10 rfl rfl ?_
    refine G_getR fX1_37 rfl dX1_lay_11 (o6 hT) (r6_3 hT) ?_
    refine G_iconst dX1_lay_14 ?_
    refine G_aload_n (i := 0) dX1_lay_15 rfl rfl ?_
    refine G_getR fX1_18 rfl dX1_lay_16 (o13 hT) (r13_2 hT) ?_
    refine G_bipush dX1_lay_19 (by decide) ?_
    refine G_aload_n (i := 0) dX1_lay_21 rfl rfl ?_
    refine G_getI (v := (R : Int)) fX1_15 rfl dX1_lay_22 (o13 hT) (hR.1) ?_
    refine G_imul dX1_lay_25 ?_
    refine G_aload_n (i := 0) dX1_lay_26 rfl rfl ?_
    refine G_getI (v := (N : Int)) fX1_9 rfl dX1_lay_27 (o13 hT) (hn.1) ?_
    refine G_copyk 0 ((9 * (R : Int)).toNat) (((N : Int)).toNat) qX1_31 (Nat.le_of_ble_eq_true rfl) dX1_lay_30 (o7 hT) (o14 hT) (by omega) (by omega) (by omega) (by omega) (by omega) rfl rfl rfl ?_
    rw [hc0dk (f := h 7) (fun j_ => rfl)]
    refine G_aload_n (i := 1) dX1_lay_33 rfl rfl ?_
    refine G_getR fX1_42 rfl dX1_lay_34 (o6 hT) (r6_5 hT) ?_
    refine G_iconst dX1_lay_37 ?_
    refine G_aload_n (i := 0) dX1_lay_38 rfl rfl ?_
    refine G_getR fX1_22 rfl dX1_lay_39 (o13 hT) (r13_3 hT) ?_
    refine G_bipush dX1_lay_42 (by decide) ?_
    refine G_aload_n (i := 0) dX1_lay_44 rfl rfl ?_
    refine G_getI (v := (R : Int)) fX1_15 rfl dX1_lay_45 (o13 hT) ((hf_na (by decide)).trans (hR.1)) ?_
    refine G_imul dX1_lay_48 ?_
    refine G_aload_n (i := 0) dX1_lay_49 rfl rfl ?_
    refine G_getI (v := (N : Int)) fX1_9 rfl dX1_lay_50 (o13 hT) ((hf_na (by decide)).trans (hn.1)) ?_
    refine G_copyk 0 ((9 * (R : Int)).toNat) (((N : Int)).toNat) qX1_31 (Nat.le_of_ble_eq_true rfl) dX1_lay_53 (o9 hT) (o15 hT) (by omega) (by omega) (by omega) (by omega) (by omega) rfl rfl rfl ?_
    rw [hc0dk (f := h 9) (fun j_ => (hf_na (by decide)))]
    refine G_iconst dX1_lay_56 ?_
    refine G_istore_n (i := 2) (ls' := [some (.inr (some 13)), some (.inr (some 6)), some (.inl 0)]) dX1_lay_57 rfl (by decide) rfl ?_
    have := x_lay_L d τ hT (x_ly1 h R N) R N ⟨hn.1, hn.2⟩ ⟨hR.1, hR.2⟩ hm1 _ 0 (Nat.lt_succ_self _) (Nat.zero_le _)
    have e0 : x_ly2 (x_ly1 h R N) R 0 = x_ly1 h R N := hf_nil
    rw [e0] at this
    exact this
  · refine G_vretZ rfl dX1_lay_9 ?_
    exfalso; omega

def x_isr (h : HT) (a : Nat) (i : Nat) : Prop := ∀ q : Nat, q < i → h 14 (9 * (h a 2 - 1).toNat + q) = h (a + 1) q ∧ h 15 (9 * (h a 2 - 1).toNat + q) = h (a + 3) q
theorem x_isRowOf_L (d : Nat) (τ : TT) (h : HT) (hT : TK τ) (a : Nat) (hF : FL τ a) (h2 : 0 ≤ h a 2 ∧ h a 2 ≤ 100) (hr : 0 ≤ h 13 1 ∧ h 13 1 ≤ 100) (hn : 0 ≤ h 13 0 ∧ h 13 0 ≤ 9) (ho : ∀ k : Nat, (k : Int) < h 13 0 → (0 ≤ h (a + 1) k ∧ h (a + 1) k ≤ 8) ∧ (0 ≤ h (a + 3) k ∧ h (a + 3) k ≤ 2)) (hc : ∀ k : Nat, k < 900 → (0 ≤ h 14 k ∧ h 14 k ≤ 8) ∧ (0 ≤ h 15 k ∧ h 15 k ≤ 2)) (g1 : 0 ≤ h a 2 - 1 ∧ h a 2 - 1 < h 13 1) : ∀ (n_ : Nat) (i : Nat), (h 13 0).toNat - i < n_ → (i : Int) ≤ h 13 0 → x_isr h a i → G_ mX1_isRowOf (d + 1) 0 0 23 [some (.inr (some 13)), some (.inr (some a)), some (.inl (h a 2 - 1)), some (.inl (i : Int))] [] τ h (Zi τ fun v h' => ((0 ≤ h a 2 - 1 ∧ h a 2 - 1 < h 13 1 ∧ x_isr h a (h 13 0).toNat) → v = 1) ∧ (¬ (0 ≤ h a 2 - 1 ∧ h a 2 - 1 < h 13 1 ∧ x_isr h a (h 13 0).toNat) → v = 0) ∧ h' = h) := by
  intro n_
  induction n_ with
  | zero => intro i hm_; exact absurd hm_ (Nat.not_lt_zero _)
  | succ n_ ih =>
    intro i hm_ hi hj
    refine G_iload_n (i := 3) dX1_isRowOf_23 rfl rfl ?_
    refine G_aload_n (i := 0) dX1_isRowOf_24 rfl rfl ?_
    refine G_getI (v := h 13 0) fX1_9 rfl dX1_isRowOf_25 (o13 hT) rfl ?_
    refine G_icmp_ge (tgt := 69) dX1_isRowOf_28 (by decide) (by omega) (by omega) (fun c_1 => ?_) (fun c_1 => ?_)
    · refine G_iconst dX1_isRowOf_69 ?_
      refine G_zretZ rfl (by decide) dX1_isRowOf_70 ?_
      obtain rfl : i = (h 13 0).toNat := by omega
      exact ⟨fun _ => rfl, fun q => absurd ⟨by omega, by omega, hj⟩ q, rfl⟩
    · refine G_aload_n (i := 0) dX1_isRowOf_31 rfl rfl ?_
      refine G_iload_n (i := 2) dX1_isRowOf_32 rfl rfl ?_
      refine G_iload_n (i := 3) dX1_isRowOf_33 rfl rfl ?_
      refine G_cVq (as := [.inl (h a 2 - 1), .inl (i : Int)]) qX1_48 (x_ribbonAt d τ h hT (h a 2 - 1) (i : Int) (by omega) (by omega)) rfl rfl (Nat.le_of_ble_eq_true rfl) (o13 hT) dX1_isRowOf_34 ?_
      have eI : (9 * (h a 2 - 1) + (i : Int)).toNat = 9 * (h a 2 - 1).toNat + i := by omega
      have c1 := hc (9 * (h a 2 - 1) + (i : Int)).toNat (by omega)
      refine G_aload_n (i := 1) dX1_isRowOf_37 rfl rfl ?_
      refine G_getR fX1_37 rfl dX1_isRowOf_38 hF.1 hF.2.2.2.2.2.1 ?_
      refine G_iload_n (i := 3) dX1_isRowOf_41 rfl rfl ?_
      refine G_iald (v := h (a + 1) i) dX1_isRowOf_42 hF.2.1 (by omega) rfl ?_
      have c2 := ho i (by omega)
      refine G_icmp_ne (tgt := 61) dX1_isRowOf_43 (by decide) (by omega) (by omega) (fun c_2 => ?_) (fun c_2 => ?_)
      · refine G_iconst dX1_isRowOf_61 ?_
        refine G_zretZ rfl (by decide) dX1_isRowOf_62 ?_
        exact ⟨fun q => by have := q.2.2 i (by omega); rw [← eI] at this; omega, fun _ => rfl, rfl⟩
      · refine G_aload_n (i := 0) dX1_isRowOf_46 rfl rfl ?_
        refine G_iload_n (i := 2) dX1_isRowOf_47 rfl rfl ?_
        refine G_iload_n (i := 3) dX1_isRowOf_48 rfl rfl ?_
        refine G_cVq (as := [.inl (h a 2 - 1), .inl (i : Int)]) qX1_51 (x_markAt d τ h hT (h a 2 - 1) (i : Int) (by omega) (by omega)) rfl rfl (Nat.le_of_ble_eq_true rfl) (o13 hT) dX1_isRowOf_49 ?_
        refine G_aload_n (i := 1) dX1_isRowOf_52 rfl rfl ?_
        refine G_getR fX1_42 rfl dX1_isRowOf_53 hF.1 hF.2.2.2.2.2.2.2.1 ?_
        refine G_iload_n (i := 3) dX1_isRowOf_56 rfl rfl ?_
        refine G_iald (v := h (a + 3) i) dX1_isRowOf_57 hF.2.2.2.1 (by omega) rfl ?_
        refine G_icmp_eq (tgt := 63) dX1_isRowOf_58 (by decide) (by omega) (by omega) (fun c_3 => ?_) (fun c_3 => ?_)
        · refine G_iinc (ls' := [some (.inr (some 13)), some (.inr (some a)), some (.inl (h a 2 - 1)), some (.inl ((i : Int) + 1))]) dX1_isRowOf_63 (by decide) rfl rfl ?_
          refine G_goto (tgt := 23) dX1_isRowOf_66 (by decide) ?_
          exact ih (i + 1) (by omega) (by omega) (fun q hq => by rcases Nat.lt_succ_iff_lt_or_eq.mp hq with z | z; exact hj q z; subst z; rw [← eI]; exact ⟨by omega, by omega⟩)
        · refine G_iconst dX1_isRowOf_61 ?_
          refine G_zretZ rfl (by decide) dX1_isRowOf_62 ?_
          exact ⟨fun q => by have := q.2.2 i (by omega); rw [← eI] at this; omega, fun _ => rfl, rfl⟩

theorem x_isRowOf (d : Nat) (τ : TT) (h : HT) (hT : TK τ) (a : Nat) (hF : FL τ a) (h2 : 0 ≤ h a 2 ∧ h a 2 ≤ 100) (hr : 0 ≤ h 13 1 ∧ h 13 1 ≤ 100) (hn : 0 ≤ h 13 0 ∧ h 13 0 ≤ 9) (ho : ∀ k : Nat, (k : Int) < h 13 0 → (0 ≤ h (a + 1) k ∧ h (a + 1) k ≤ 8) ∧ (0 ≤ h (a + 3) k ∧ h (a + 3) k ≤ 2)) (hc : ∀ k : Nat, k < 900 → (0 ≤ h 14 k ∧ h 14 k ≤ 8) ∧ (0 ≤ h 15 k ∧ h 15 k ≤ 2)) : S_ mX1_isRowOf (d + 1) 0 0 [.inr (some 13), .inr (some a)] τ h (Zi τ fun v h' => ((0 ≤ h a 2 - 1 ∧ h a 2 - 1 < h 13 1 ∧ x_isr h a (h 13 0).toNat) → v = 1) ∧ (¬ (0 ≤ h a 2 - 1 ∧ h a 2 - 1 < h 13 1 ∧ x_isr h a (h 13 0).toNat) → v = 0) ∧ h' = h) := by
  refine S_go (k := 2) (ls := [some (.inr (some 13)), some (.inr (some a)), none, none]) (by decide) rfl (Nat.le_of_ble_eq_true rfl) rfl ?_
  refine G_aload_n (i := 1) dX1_isRowOf_0 rfl rfl ?_
  refine G_getI (v := h a 2) fX1_47 rfl dX1_isRowOf_1 hF.1 rfl ?_
  refine G_iconst dX1_isRowOf_4 ?_
  refine G_isub dX1_isRowOf_5 ?_
  refine G_istore_n (i := 2) (ls' := [some (.inr (some 13)), some (.inr (some a)), some (.inl ((h a 2) - 1)), none]) dX1_isRowOf_6 rfl (by decide) rfl ?_
  refine G_iload_n (i := 2) dX1_isRowOf_7 rfl rfl ?_
  refine G_if_lt (tgt := 19) dX1_isRowOf_8 (by decide) (by omega) (fun c_1 => ?_) (fun c_1 => ?_)
  · refine G_iconst dX1_isRowOf_19 ?_
    refine G_zretZ rfl (by decide) dX1_isRowOf_20 ?_
    exact ⟨fun q => by omega, fun _ => rfl, rfl⟩
  · refine G_iload_n (i := 2) dX1_isRowOf_11 rfl rfl ?_
    refine G_aload_n (i := 0) dX1_isRowOf_12 rfl rfl ?_
    refine G_getI (v := h 13 1) fX1_15 rfl dX1_isRowOf_13 (o13 hT) rfl ?_
    refine G_icmp_lt (tgt := 21) dX1_isRowOf_16 (by decide) (by omega) (by omega) (fun c_2 => ?_) (fun c_2 => ?_)
    · refine G_iconst dX1_isRowOf_21 ?_
      refine G_istore_n (i := 3) (ls' := [some (.inr (some 13)), some (.inr (some a)), some (.inl ((h a 2) - 1)), some (.inl 0)]) dX1_isRowOf_22 rfl (by decide) rfl ?_
      exact x_isRowOf_L d τ h hT a hF h2 hr hn ho hc (by omega) _ 0 (Nat.lt_succ_self _) (by omega) (fun q hq => absurd hq (Nat.not_lt_zero _))
    · refine G_iconst dX1_isRowOf_19 ?_
      refine G_zretZ rfl (by decide) dX1_isRowOf_20 ?_
      exact ⟨fun q => by omega, fun _ => rfl, rfl⟩

abbrev x_tat (h : HT) (r p : Int) : Int := h 17 (h 16 (9 * r + p).toNat).toNat
def x_topok (h : HT) : Prop := ∀ r p : Nat, (r : Int) < h 13 1 → (p : Int) < h 13 0 → 0 ≤ h 16 (9 * r + p) ∧ h 16 (9 * r + p) < 9
theorem x_topok_i {h : HT} (x : x_topok h) {r p : Int} (hr : 0 ≤ r ∧ r < h 13 1) (hp : 0 ≤ p ∧ p < h 13 0) : 0 ≤ h 16 (9 * r + p).toNat ∧ h 16 (9 * r + p).toNat < 9 := by
  have := x r.toNat p.toNat (by omega) (by omega)
  rwa [show (9 * r + p).toNat = 9 * r.toNat + p.toNat by omega]
theorem x_topAt (d : Nat) (τ : TT) (h : HT) (hT : TK τ) (r p : Int) (hrr : 0 ≤ h 13 1 ∧ h 13 1 ≤ 100) (hn : 0 ≤ h 13 0 ∧ h 13 0 ≤ 9) (tk : x_topok h) (hr : 0 ≤ r ∧ r < h 13 1) (hp : 0 ≤ p ∧ p < h 13 0) : S_ mX1_topAt (d + 1) 0 0 [.inr (some 13), .inl r, .inl p] τ h (Zi τ fun v h' => v = x_tat h r p ∧ h' = h) := by
  refine S_go (k := 0) (ls := [some (.inr (some 13)), some (.inl r), some (.inl p)]) (by decide) rfl (Nat.le_of_ble_eq_true rfl) rfl ?_
  refine G_aload_n (i := 0) dX1_topAt_0 rfl rfl ?_
  refine G_getR fX1_28 rfl dX1_topAt_1 (o13 hT) (r13_5 hT) ?_
  refine G_aload_n (i := 0) dX1_topAt_4 rfl rfl ?_
  refine G_iload_n (i := 1) dX1_topAt_5 rfl rfl ?_
  refine G_iload_n (i := 2) dX1_topAt_6 rfl rfl ?_
  refine G_cVq (as := [.inl r, .inl p]) qX1_60 (x_topRibbonM d τ h hT r p (by omega) (by omega)) rfl rfl (Nat.le_of_ble_eq_true rfl) (o13 hT) dX1_topAt_7 ?_
  have t_ := x_topok_i tk hr hp
  refine G_iald (v := h 17 ((h 16 (9 * r + p).toNat).toNat)) dX1_topAt_10 (o17 hT) (by omega) rfl ?_
  refine G_iretZ rfl dX1_topAt_11 ?_
  exact ⟨rfl, rfl⟩

abbrev x_lk (h : HT) (r s : Int) (i : Nat) : Prop := ∀ q : Nat, q < i → x_tat h r q = x_tat h s q
theorem x_areLike_L (d : Nat) (τ : TT) (h : HT) (hT : TK τ) (r s : Int) (hrr : 0 ≤ h 13 1 ∧ h 13 1 ≤ 100) (hn : 0 ≤ h 13 0 ∧ h 13 0 ≤ 9) (tk : x_topok h) (h17 : ∀ k : Nat, k < 9 → 0 ≤ h 17 k ∧ h 17 k ≤ 7) (hr : 0 ≤ r ∧ r < h 13 1) (hs : 0 ≤ s ∧ s < h 13 1) : ∀ (n_ : Nat) (i : Nat), (h 13 0).toNat - i < n_ → (i : Int) ≤ h 13 0 → x_lk h r s i → G_ mX1_areLike (d + 2) 0 0 2 [some (.inr (some 13)), some (.inl r), some (.inl s), some (.inl (i : Int))] [] τ h (Zi τ fun v h' => v = (if x_lk h r s (h 13 0).toNat then 1 else 0) ∧ h' = h) := by
  intro n_
  induction n_ with
  | zero => intro i hm_; exact absurd hm_ (Nat.not_lt_zero _)
  | succ n_ ih =>
    intro i hm_ hi hj
    refine G_iload_n (i := 3) dX1_areLike_2 rfl rfl ?_
    refine G_aload_n (i := 0) dX1_areLike_3 rfl rfl ?_
    refine G_getI (v := h 13 0) fX1_9 rfl dX1_areLike_4 (o13 hT) rfl ?_
    refine G_icmp_ge (tgt := 33) dX1_areLike_7 (by decide) (by omega) (by omega) (fun c_1 => ?_) (fun c_1 => ?_)
    · refine G_iconst dX1_areLike_33 ?_
      refine G_zretZ rfl (by decide) dX1_areLike_34 ?_
      obtain rfl : i = (h 13 0).toNat := by omega
      exact ⟨by rw [if_pos hj], rfl⟩
    · refine G_aload_n (i := 0) dX1_areLike_10 rfl rfl ?_
      refine G_iload_n (i := 1) dX1_areLike_11 rfl rfl ?_
      refine G_iload_n (i := 3) dX1_areLike_12 rfl rfl ?_
      refine G_cVq (as := [.inl r, .inl (i : Int)]) qX1_71 (x_topAt d τ h hT r (i : Int) hrr hn tk (by omega) (by omega)) rfl rfl (Nat.le_of_ble_eq_true rfl) (o13 hT) dX1_areLike_13 ?_
      have t1 := x_topok_i tk hr (p := (i : Int)) (by omega)
      have u1 : 0 ≤ x_tat h r (i : Int) ∧ x_tat h r (i : Int) ≤ 7 := h17 (h 16 (9 * r + (i : Int)).toNat).toNat (by omega)
      refine G_aload_n (i := 0) dX1_areLike_16 rfl rfl ?_
      refine G_iload_n (i := 2) dX1_areLike_17 rfl rfl ?_
      refine G_iload_n (i := 3) dX1_areLike_18 rfl rfl ?_
      refine G_cVq (as := [.inl s, .inl (i : Int)]) qX1_71 (x_topAt d τ h hT s (i : Int) hrr hn tk (by omega) (by omega)) rfl rfl (Nat.le_of_ble_eq_true rfl) (o13 hT) dX1_areLike_19 ?_
      have t2 := x_topok_i tk hs (p := (i : Int)) (by omega)
      have u2 : 0 ≤ x_tat h s (i : Int) ∧ x_tat h s (i : Int) ≤ 7 := h17 (h 16 (9 * s + (i : Int)).toNat).toNat (by omega)
      refine G_icmp_eq (tgt := 27) dX1_areLike_22 (by decide) (by omega) (by omega) (fun c_2 => ?_) (fun c_2 => ?_)
      · refine G_iinc (ls' := [some (.inr (some 13)), some (.inl r), some (.inl s), some (.inl ((i : Int) + 1))]) dX1_areLike_27 (by decide) rfl rfl ?_
        refine G_goto (tgt := 2) dX1_areLike_30 (by decide) ?_
        exact ih (i + 1) (by omega) (by omega) (fun q hq => by rcases Nat.lt_succ_iff_lt_or_eq.mp hq with z | z; exact hj q z; subst z; omega)
      · refine G_iconst dX1_areLike_25 ?_
        refine G_zretZ rfl (by decide) dX1_areLike_26 ?_
        exact ⟨by rw [if_neg (fun q => by have := q i (by omega); omega)], rfl⟩

theorem x_areLike (d : Nat) (τ : TT) (h : HT) (hT : TK τ) (r s : Int) (hrr : 0 ≤ h 13 1 ∧ h 13 1 ≤ 100) (hn : 0 ≤ h 13 0 ∧ h 13 0 ≤ 9) (tk : x_topok h) (h17 : ∀ k : Nat, k < 9 → 0 ≤ h 17 k ∧ h 17 k ≤ 7) (hr : 0 ≤ r ∧ r < h 13 1) (hs : 0 ≤ s ∧ s < h 13 1) : S_ mX1_areLike (d + 2) 0 0 [.inr (some 13), .inl r, .inl s] τ h (Zi τ fun v h' => v = (if x_lk h r s (h 13 0).toNat then 1 else 0) ∧ h' = h) := by
  refine S_go (k := 1) (ls := [some (.inr (some 13)), some (.inl r), some (.inl s), none]) (by decide) rfl (Nat.le_of_ble_eq_true rfl) rfl ?_
  refine G_iconst dX1_areLike_0 ?_
  refine G_istore_n (i := 3) (ls' := [some (.inr (some 13)), some (.inl r), some (.inl s), some (.inl 0)]) dX1_areLike_1 rfl (by decide) rfl ?_
  exact x_areLike_L d τ h hT r s hrr hn tk h17 hr hs _ 0 (Nat.lt_succ_self _) (by omega) (fun q hq => absurd hq (Nat.not_lt_zero _))

abbrev x_bt (h : HT) (b i : Nat) : Prop := ∀ r : Nat, r < i → b ≤ r → x_lk h r ((r : Int) - b) (h 13 0).toNat
theorem x_beatsBy_L (d : Nat) (τ : TT) (h : HT) (hT : TK τ) (b : Nat) (hrr : 0 ≤ h 13 1 ∧ h 13 1 ≤ 100) (hn : 0 ≤ h 13 0 ∧ h 13 0 ≤ 9) (tk : x_topok h) (h17 : ∀ k : Nat, k < 9 → 0 ≤ h 17 k ∧ h 17 k ≤ 7) (hb : 1 ≤ b) : ∀ (n_ : Nat) (i : Nat), (h 13 1).toNat - i < n_ → (i : Int) ≤ h 13 1 → b ≤ i → x_bt h b i → G_ mX1_beatsBy (d + 3) 0 0 2 [some (.inr (some 13)), some (.inl (b : Int)), some (.inl (i : Int))] [] τ h (Zi τ fun v h' => v = (if x_bt h b (h 13 1).toNat then 1 else 0) ∧ h' = h) := by
  intro n_
  induction n_ with
  | zero => intro i hm_; exact absurd hm_ (Nat.not_lt_zero _)
  | succ n_ ih =>
    intro i hm_ hi hbi hj
    refine G_iload_n (i := 2) dX1_beatsBy_2 rfl rfl ?_
    refine G_aload_n (i := 0) dX1_beatsBy_3 rfl rfl ?_
    refine G_getI (v := h 13 1) fX1_15 rfl dX1_beatsBy_4 (o13 hT) rfl ?_
    refine G_icmp_ge (tgt := 29) dX1_beatsBy_7 (by decide) (by omega) (by omega) (fun c_1 => ?_) (fun c_1 => ?_)
    · refine G_iconst dX1_beatsBy_29 ?_
      refine G_zretZ rfl (by decide) dX1_beatsBy_30 ?_
      obtain rfl : i = (h 13 1).toNat := by omega
      exact ⟨by rw [if_pos hj], rfl⟩
    · refine G_aload_n (i := 0) dX1_beatsBy_10 rfl rfl ?_
      refine G_iload_n (i := 2) dX1_beatsBy_11 rfl rfl ?_
      refine G_iload_n (i := 2) dX1_beatsBy_12 rfl rfl ?_
      refine G_iload_n (i := 1) dX1_beatsBy_13 rfl rfl ?_
      refine G_isub dX1_beatsBy_14 ?_
      refine G_cVq (as := [.inl (i : Int), .inl ((i : Int) - (b : Int))]) qX1_67 (x_areLike d τ h hT (i : Int) ((i : Int) - (b : Int)) hrr hn tk h17 (by omega) (by omega)) rfl rfl (Nat.le_of_ble_eq_true rfl) (o13 hT) dX1_beatsBy_15 ?_
      refine G_ifb_ne (tgt := 23) dX1_beatsBy_18 (by decide) (fun c_2 => ?_) (fun c_2 => ?_)
      · refine G_iinc (ls' := [some (.inr (some 13)), some (.inl (b : Int)), some (.inl ((i : Int) + 1))]) dX1_beatsBy_23 (by decide) rfl rfl ?_
        refine G_goto (tgt := 2) dX1_beatsBy_26 (by decide) ?_
        exact ih (i + 1) (by omega) (by omega) (by omega) (fun q hq hbq => by rcases Nat.lt_succ_iff_lt_or_eq.mp hq with z | z; exact hj q z hbq; subst z; assumption)
      · refine G_iconst dX1_beatsBy_21 ?_
        refine G_zretZ rfl (by decide) dX1_beatsBy_22 ?_
        exact ⟨by rw [if_neg (fun q => absurd (q i (by omega) (by omega)) (by assumption))], rfl⟩

theorem x_beatsBy (d : Nat) (τ : TT) (h : HT) (hT : TK τ) (b : Nat) (hrr : 0 ≤ h 13 1 ∧ h 13 1 ≤ 100) (hn : 0 ≤ h 13 0 ∧ h 13 0 ≤ 9) (tk : x_topok h) (h17 : ∀ k : Nat, k < 9 → 0 ≤ h 17 k ∧ h 17 k ≤ 7) (hb : 1 ≤ b) (hb2 : (b : Int) < h 13 1) : S_ mX1_beatsBy (d + 3) 0 0 [.inr (some 13), .inl (b : Int)] τ h (Zi τ fun v h' => v = (if x_bt h b (h 13 1).toNat then 1 else 0) ∧ h' = h) := by
  refine S_go (k := 1) (ls := [some (.inr (some 13)), some (.inl (b : Int)), none]) (by decide) rfl (Nat.le_of_ble_eq_true rfl) rfl ?_
  refine G_iload_n (i := 1) dX1_beatsBy_0 rfl rfl ?_
  refine G_istore_n (i := 2) (ls' := [some (.inr (some 13)), some (.inl (b : Int)), some (.inl (b : Int))]) dX1_beatsBy_1 rfl (by decide) rfl ?_
  exact x_beatsBy_L d τ h hT b hrr hn tk h17 hb _ b (Nat.lt_succ_self _) (by omega) (Nat.le_refl _) (fun q hq hbq => by omega)

def x_isb (h : HT) (v : Int) : Prop := 1 ≤ v ∧ v ≤ h 13 1 ∧ (v < h 13 1 → x_bt h v.toNat (h 13 1).toNat) ∧ ∀ b : Nat, 1 ≤ b → (b : Int) < v → ¬ x_bt h b (h 13 1).toNat
theorem x_leastBeat_L (d : Nat) (τ : TT) (h : HT) (hT : TK τ) (hrr : 0 ≤ h 13 1 ∧ h 13 1 ≤ 100) (hn : 0 ≤ h 13 0 ∧ h 13 0 ≤ 9) (tk : x_topok h) (h17 : ∀ k : Nat, k < 9 → 0 ≤ h 17 k ∧ h 17 k ≤ 7) (h1 : 1 ≤ h 13 1) : ∀ (n_ : Nat) (i : Nat), (h 13 1).toNat - i < n_ → (i : Int) ≤ h 13 1 → 1 ≤ i → (∀ b : Nat, 1 ≤ b → (b : Int) < (i : Int) → ¬ x_bt h b (h 13 1).toNat) → G_ mX1_leastBeat (d + 4) 0 0 2 [some (.inr (some 13)), some (.inl (i : Int))] [] τ h (Zi τ fun v h' => x_isb h v ∧ h' = h) := by
  intro n_
  induction n_ with
  | zero => intro i hm_; exact absurd hm_ (Nat.not_lt_zero _)
  | succ n_ ih =>
    intro i hm_ hi hi1 hj
    refine G_iload_n (i := 1) dX1_leastBeat_2 rfl rfl ?_
    refine G_aload_n (i := 0) dX1_leastBeat_3 rfl rfl ?_
    refine G_getI (v := h 13 1) fX1_15 rfl dX1_leastBeat_4 (o13 hT) rfl ?_
    refine G_icmp_ge (tgt := 26) dX1_leastBeat_7 (by decide) (by omega) (by omega) (fun c_1 => ?_) (fun c_1 => ?_)
    · refine G_aload_n (i := 0) dX1_leastBeat_26 rfl rfl ?_
      refine G_getI (v := h 13 1) fX1_15 rfl dX1_leastBeat_27 (o13 hT) rfl ?_
      refine G_iretZ rfl dX1_leastBeat_30 ?_
      exact ⟨⟨by omega, by omega, fun q => by omega, fun b b1 b2 => hj b b1 (by omega)⟩, rfl⟩
    · refine G_aload_n (i := 0) dX1_leastBeat_10 rfl rfl ?_
      refine G_iload_n (i := 1) dX1_leastBeat_11 rfl rfl ?_
      refine G_cVq (as := [.inl (i : Int)]) qX1_63 (x_beatsBy d τ h hT i hrr hn tk h17 (by omega) (by omega)) rfl rfl (Nat.le_of_ble_eq_true rfl) (o13 hT) dX1_leastBeat_12 ?_
      refine G_ifb_eq (tgt := 20) dX1_leastBeat_15 (by decide) (fun c_2 => ?_) (fun c_2 => ?_)
      · refine G_iinc (ls' := [some (.inr (some 13)), some (.inl ((i : Int) + 1))]) dX1_leastBeat_20 (by decide) rfl rfl ?_
        refine G_goto (tgt := 2) dX1_leastBeat_23 (by decide) ?_
        exact ih (i + 1) (by omega) (by omega) (by omega) (fun q q1 q2 => by rcases (show q < i ∨ q = i by omega) with z | z; exact hj q q1 (by omega); subst z; assumption)
      · refine G_iload_n (i := 1) dX1_leastBeat_18 rfl rfl ?_
        refine G_iretZ rfl dX1_leastBeat_19 ?_
        exact ⟨⟨by omega, by omega, fun _ => by assumption, hj⟩, rfl⟩

theorem x_leastBeat (d : Nat) (τ : TT) (h : HT) (hT : TK τ) (hrr : 0 ≤ h 13 1 ∧ h 13 1 ≤ 100) (hn : 0 ≤ h 13 0 ∧ h 13 0 ≤ 9) (tk : x_topok h) (h17 : ∀ k : Nat, k < 9 → 0 ≤ h 17 k ∧ h 17 k ≤ 7) (h1 : 1 ≤ h 13 1) : S_ mX1_leastBeat (d + 4) 0 0 [.inr (some 13)] τ h (Zi τ fun v h' => x_isb h v ∧ h' = h) := by
  refine S_go (k := 1) (ls := [some (.inr (some 13)), none]) (by decide) rfl (Nat.le_of_ble_eq_true rfl) rfl ?_
  refine G_iconst dX1_leastBeat_0 ?_
  refine G_istore_n (i := 1) (ls' := [some (.inr (some 13)), some (.inl 1)]) dX1_leastBeat_1 rfl (by decide) rfl ?_
  exact x_leastBeat_L d τ h hT hrr hn tk h17 h1 _ 1 (Nat.lt_succ_self _) (by omega) (by omega) (fun b b1 b2 => by omega)

