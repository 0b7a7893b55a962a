/-! fewest: the class counts the passes -/
theorem x_settle_I (d : Nat) (τ : TT) (hT : TK τ) (Z : ZT) (g : HT) (n t : Nat) (hn : 3 ≤ n ∧ n ≤ 7) (l : List Nat) (aw : AW n (g 58) l) (K : ∀ m m2 : Nat, MXp (g 58) n m → MNp (g 58) n m2 → G_ mX4_settleWays d 0 0 103 [some (.inr (some 55)), some (.inl (n : Int)), some (.inl (t : Int)), some (.inl (m : Int)), some (.inl (m2 : Int)), none] [] τ g (Z)) : ∀ (n_ : Nat) (m : Nat) (m2 : Nat) (i : Nat), n - i < n_ → i ≤ n → 1 ≤ i → MXp (g 58) i m → MNp (g 58) i m2 → G_ mX4_settleWays d 0 0 42 [some (.inr (some 55)), some (.inl (n : Int)), some (.inl (t : Int)), some (.inl (m : Int)), some (.inl (m2 : Int)), some (.inl (i : Int))] [] τ g (Z) := by
  intro n_
  induction n_ with
  | zero => intro m m2 i hm_; exact absurd hm_ (Nat.not_lt_zero _)
  | succ n_ ih =>
    intro m m2 i hm_ hi hi1 mx mn
    have m_ := mx.1
    have m2_ := mn.1
    refine G_iload dX4_settleWays_42 rfl ?_
    refine G_iload_n (i := 1) dX4_settleWays_44 rfl rfl ?_
    refine G_icmp_ge (tgt := 103) dX4_settleWays_45 (by decide) (by omega) (by omega) (fun c_1 => ?_) (fun c_1 => ?_)
    · refine G_lsub (ls' := [some (.inr (some 55)), some (.inl (n : Int)), some (.inl (t : Int)), some (.inl (m : Int)), some (.inl (m2 : Int)), none]) (LS_same (LS_same (LS_same (LS_same (LS_same (LS_none LS_nil)))))) ?_
      obtain rfl : i = n := by omega
      exact K m m2 mx mn
    · refine G_aload_n (i := 0) dX4_settleWays_48 rfl rfl ?_
      refine G_getR fX4_18 rfl dX4_settleWays_49 (o55 hT) (r55_2 hT) ?_
      refine G_iload dX4_settleWays_52 rfl ?_
      refine G_iald (v := g 58 i) dX4_settleWays_54 (o58 hT) (by omega) rfl ?_
      have e54_ := aw.r (j := i) (by omega)
      refine G_aload_n (i := 0) dX4_settleWays_55 rfl rfl ?_
      refine G_getR fX4_18 rfl dX4_settleWays_56 (o55 hT) (r55_2 hT) ?_
      refine G_iload_n (i := 3) dX4_settleWays_59 rfl rfl ?_
      refine G_iald (v := g 58 m) dX4_settleWays_60 (o58 hT) (by omega) rfl ?_
      have e60_ := aw.r (j := m) (by omega)
      refine G_icmp_le (tgt := 69) dX4_settleWays_61 (by decide) (by omega) (by omega) (fun c_2 => ?_) (fun c_2 => ?_)
      · refine G_iload_n (i := 3) dX4_settleWays_69 rfl rfl ?_
        refine G_istore_n (i := 3) (ls' := [some (.inr (some 55)), some (.inl (n : Int)), some (.inl (t : Int)), some (.inl (m : Int)), some (.inl (m2 : Int)), some (.inl (i : Int))]) dX4_settleWays_70 rfl (by decide) rfl ?_
        refine G_aload_n (i := 0) dX4_settleWays_71 rfl rfl ?_
        refine G_getR fX4_18 rfl dX4_settleWays_72 (o55 hT) (r55_2 hT) ?_
        refine G_iload dX4_settleWays_75 rfl ?_
        refine G_iald (v := g 58 i) dX4_settleWays_77 (o58 hT) (by omega) rfl ?_
        have e77_ := aw.r (j := i) (by omega)
        refine G_aload_n (i := 0) dX4_settleWays_78 rfl rfl ?_
        refine G_getR fX4_18 rfl dX4_settleWays_79 (o55 hT) (r55_2 hT) ?_
        refine G_iload dX4_settleWays_82 rfl ?_
        refine G_iald (v := g 58 m2) dX4_settleWays_84 (o58 hT) (by omega) rfl ?_
        have e84_ := aw.r (j := m2) (by omega)
        refine G_icmp_ge (tgt := 93) dX4_settleWays_85 (by decide) (by omega) (by omega) (fun c_3 => ?_) (fun c_3 => ?_)
        · refine G_iload dX4_settleWays_93 rfl ?_
          refine G_istore (ls' := [some (.inr (some 55)), some (.inl (n : Int)), some (.inl (t : Int)), some (.inl (m : Int)), some (.inl (m2 : Int)), some (.inl (i : Int))]) dX4_settleWays_95 (by decide) rfl ?_
          refine G_iinc (ls' := [some (.inr (some 55)), some (.inl (n : Int)), some (.inl (t : Int)), some (.inl (m : Int)), some (.inl (m2 : Int)), some (.inl ((i : Int) + 1))]) dX4_settleWays_97 (by decide) rfl rfl ?_
          refine G_goto (tgt := 42) dX4_settleWays_100 (by decide) ?_
          refine ih m m2 (i + 1) (by omega) (by omega) (by omega) (mx.s0 (by omega)) (mn.s0 (by omega))
        · refine G_iload dX4_settleWays_88 rfl ?_
          refine G_goto (tgt := 95) dX4_settleWays_90 (by decide) ?_
          refine G_istore (ls' := [some (.inr (some 55)), some (.inl (n : Int)), some (.inl (t : Int)), some (.inl (m : Int)), some (.inl (i : Int)), some (.inl (i : Int))]) dX4_settleWays_95 (by decide) rfl ?_
          refine G_iinc (ls' := [some (.inr (some 55)), some (.inl (n : Int)), some (.inl (t : Int)), some (.inl (m : Int)), some (.inl (i : Int)), some (.inl ((i : Int) + 1))]) dX4_settleWays_97 (by decide) rfl rfl ?_
          refine G_goto (tgt := 42) dX4_settleWays_100 (by decide) ?_
          refine ih m i (i + 1) (by omega) (by omega) (by omega) (mx.s0 (by omega)) (mn.s1 (by omega))
      · refine G_iload dX4_settleWays_64 rfl ?_
        refine G_goto (tgt := 70) dX4_settleWays_66 (by decide) ?_
        refine G_istore_n (i := 3) (ls' := [some (.inr (some 55)), some (.inl (n : Int)), some (.inl (t : Int)), some (.inl (i : Int)), some (.inl (m2 : Int)), some (.inl (i : Int))]) dX4_settleWays_70 rfl (by decide) rfl ?_
        refine G_aload_n (i := 0) dX4_settleWays_71 rfl rfl ?_
        refine G_getR fX4_18 rfl dX4_settleWays_72 (o55 hT) (r55_2 hT) ?_
        refine G_iload dX4_settleWays_75 rfl ?_
        refine G_iald (v := g 58 i) dX4_settleWays_77 (o58 hT) (by omega) rfl ?_
        have e77_ := aw.r (j := i) (by omega)
        refine G_aload_n (i := 0) dX4_settleWays_78 rfl rfl ?_
        refine G_getR fX4_18 rfl dX4_settleWays_79 (o55 hT) (r55_2 hT) ?_
        refine G_iload dX4_settleWays_82 rfl ?_
        refine G_iald (v := g 58 m2) dX4_settleWays_84 (o58 hT) (by omega) rfl ?_
        have e84_ := aw.r (j := m2) (by omega)
        refine G_icmp_ge (tgt := 93) dX4_settleWays_85 (by decide) (by omega) (by omega) (fun c_4 => ?_) (fun c_4 => ?_)
        · refine G_iload dX4_settleWays_93 rfl ?_
          refine G_istore (ls' := [some (.inr (some 55)), some (.inl (n : Int)), some (.inl (t : Int)), some (.inl (i : Int)), some (.inl (m2 : Int)), some (.inl (i : Int))]) dX4_settleWays_95 (by decide) rfl ?_
          refine G_iinc (ls' := [some (.inr (some 55)), some (.inl (n : Int)), some (.inl (t : Int)), some (.inl (i : Int)), some (.inl (m2 : Int)), some (.inl ((i : Int) + 1))]) dX4_settleWays_97 (by decide) rfl rfl ?_
          refine G_goto (tgt := 42) dX4_settleWays_100 (by decide) ?_
          refine ih i m2 (i + 1) (by omega) (by omega) (by omega) (mx.s1 (by omega)) (mn.s0 (by omega))
        · refine G_iload dX4_settleWays_88 rfl ?_
          refine G_goto (tgt := 95) dX4_settleWays_90 (by decide) ?_
          refine G_istore (ls' := [some (.inr (some 55)), some (.inl (n : Int)), some (.inl (t : Int)), some (.inl (i : Int)), some (.inl (i : Int)), some (.inl (i : Int))]) dX4_settleWays_95 (by decide) rfl ?_
          refine G_iinc (ls' := [some (.inr (some 55)), some (.inl (n : Int)), some (.inl (t : Int)), some (.inl (i : Int)), some (.inl (i : Int)), some (.inl ((i : Int) + 1))]) dX4_settleWays_97 (by decide) rfl rfl ?_
          refine G_goto (tgt := 42) dX4_settleWays_100 (by decide) ?_
          refine ih i i (i + 1) (by omega) (by omega) (by omega) (mx.s1 (by omega)) (mn.s1 (by omega))

theorem x_settle_T (d : Nat) (τ : TT) (h : HT) (hT : TK τ) (n : Nat) (hn : 3 ≤ n ∧ n ≤ 7) (LL : List Nat) : ∀ (n_ : Nat) (g : HT) (t : Nat) (l : List Nat), n - t < n_ → t ≤ n → (∀ b j : Nat, b ≠ 58 → g b j = h b j) → AW n (g 58) l → zw_set n (n - t) l = LL → G_ mX4_settleWays d 0 0 29 [some (.inr (some 55)), some (.inl (n : Int)), some (.inl (t : Int)), none, none, none] [] τ g (Zv τ fun h' => AW n (h' 58) LL ∧ ∀ b j : Nat, b ≠ 58 → h' b j = h b j) := by
  intro n_
  induction n_ with
  | zero => intro g t l hm_; exact absurd hm_ (Nat.not_lt_zero _)
  | succ n_ ih =>
    intro g t l hm_ ht fr aw el
    refine G_iload_n (i := 2) dX4_settleWays_29 rfl rfl ?_
    refine G_iload_n (i := 1) dX4_settleWays_30 rfl rfl ?_
    refine G_icmp_ge (tgt := 149) dX4_settleWays_31 (by decide) (by omega) (by omega) (fun c_1 => ?_) (fun c_1 => ?_)
    · refine G_vretZ rfl dX4_settleWays_149 ?_
      obtain rfl : t = n := by omega
      rw [Nat.sub_self] at el
      have el2 : l = LL := el
      subst el2
      exact ⟨aw, fr⟩
    · refine G_iconst dX4_settleWays_34 ?_
      refine G_istore_n (i := 3) (ls' := [some (.inr (some 55)), some (.inl (n : Int)), some (.inl (t : Int)), some (.inl 0), none, none]) dX4_settleWays_35 rfl (by decide) rfl ?_
      refine G_iconst dX4_settleWays_36 ?_
      refine G_istore (ls' := [some (.inr (some 55)), some (.inl (n : Int)), some (.inl (t : Int)), some (.inl 0), some (.inl 0), none]) dX4_settleWays_37 (by decide) rfl ?_
      refine G_iconst dX4_settleWays_39 ?_
      refine G_istore (ls' := [some (.inr (some 55)), some (.inl (n : Int)), some (.inl (t : Int)), some (.inl 0), some (.inl 0), some (.inl 1)]) dX4_settleWays_40 (by decide) rfl ?_
      refine x_settle_I d τ hT _ g n t hn l aw ?_ _ 0 0 1 (Nat.lt_succ_self _) (by omega) (Nat.le_refl _) ⟨by decide, fun j hj => by rw [show j = 0 by omega]; exact Int.le_refl _, fun j hj => absurd hj (Nat.not_lt_zero _)⟩ ⟨by decide, fun j hj => by rw [show j = 0 by omega]; exact Int.le_refl _, fun j hj => absurd hj (Nat.not_lt_zero _)⟩
      intro m m2 mx mn
      have m_ := mx.1
      have m2_ := mn.1
      have rm := aw.r m_
      have rm2 := aw.r m2_
      refine G_aload_n (i := 0) dX4_settleWays_103 rfl rfl ?_
      refine G_getR fX4_18 rfl dX4_settleWays_104 (o55 hT) (r55_2 hT) ?_
      refine G_iload_n (i := 3) dX4_settleWays_107 rfl rfl ?_
      refine G_iald (v := g 58 m) dX4_settleWays_108 (o58 hT) (by omega) rfl ?_
      refine G_aload_n (i := 0) dX4_settleWays_109 rfl rfl ?_
      refine G_getR fX4_18 rfl dX4_settleWays_110 (o55 hT) (r55_2 hT) ?_
      refine G_iload dX4_settleWays_113 rfl ?_
      refine G_iald (v := g 58 m2) dX4_settleWays_115 (o58 hT) (by omega) rfl ?_
      refine G_isub dX4_settleWays_116 ?_
      refine G_iload_n (i := 1) dX4_settleWays_117 rfl rfl ?_
      refine G_icmp_gt (tgt := 122) dX4_settleWays_118 (by decide) (by omega) (by omega) (fun c_2 => ?_) (fun c_2 => ?_)
      · refine G_aload_n (i := 0) dX4_settleWays_122 rfl rfl ?_
        have ne_ : m ≠ m2 := fun z => (by subst z; omega)
        refine G_getR fX4_18 rfl dX4_settleWays_123 (o55 hT) (r55_2 hT) ?_
        refine G_iload_n (i := 3) dX4_settleWays_126 rfl rfl ?_
        refine G_dup2 dX4_settleWays_127 ?_
        refine G_iald (v := g 58 m) dX4_settleWays_128 (o58 hT) (by omega) rfl ?_
        refine G_iload_n (i := 1) dX4_settleWays_129 rfl rfl ?_
        refine G_isub dX4_settleWays_130 ?_
        refine G_iastk m dX4_settleWays_131 (o58 hT) (by omega) rfl ?_
        refine G_aload_n (i := 0) dX4_settleWays_132 rfl rfl ?_
        refine G_getR fX4_18 rfl dX4_settleWays_133 (o55 hT) (r55_2 hT) ?_
        refine G_iload dX4_settleWays_136 rfl ?_
        refine G_dup2 dX4_settleWays_138 ?_
        refine G_iald (v := g 58 m2) dX4_settleWays_139 (o58 hT) (by omega) (hs_ni (by omega)) ?_
        refine G_iload_n (i := 1) dX4_settleWays_140 rfl rfl ?_
        refine G_iadd dX4_settleWays_141 ?_
        refine G_iastk m2 dX4_settleWays_142 (o58 hT) (by omega) rfl ?_
        refine G_iinc (ls' := [some (.inr (some 55)), some (.inl (n : Int)), some (.inl ((t : Int) + 1)), some (.inl (m : Int)), some (.inl (m2 : Int)), none]) dX4_settleWays_143 (by decide) rfl rfl ?_
        refine G_goto (tgt := 29) dX4_settleWays_146 (by decide) ?_
        obtain ⟨k, hk⟩ : ∃ k, n - t = k + 1 := ⟨n - t - 1, by omega⟩
        obtain ⟨l2, s1, s2⟩ := (AW.step (k := k) aw mx mn).2 (by omega)
        rw [hk, s1] at el
        refine G_lsub (ls' := [some (.inr (some 55)), some (.inl (n : Int)), some (.inl ((t : Int) + 1)), none, none, none]) (LS_same (LS_same (LS_same (LS_none (LS_none (LS_none LS_nil)))))) ?_
        refine ih _ (t + 1) l2 (by omega) (by omega) (fun b j z => by rw [hs_na z, hs_na z]; exact fr b j z) (s2 _ ?_ ?_ (fun j j0 j1 j2 => ?_)) (by rw [show n - (t + 1) = k by omega]; exact el)
        · rw [hs_ni (by omega), hs_eq]
        · rw [hs_eq]
        · rw [hs_ni (by omega), hs_ni (by omega)]
      · refine G_vretZ rfl dX4_settleWays_121 ?_
        obtain ⟨k, hk⟩ : ∃ k, n - t = k + 1 := ⟨n - t - 1, by omega⟩
        rw [hk, (AW.step (k := k) aw mx mn).1 (by omega)] at el
        subst el
        exact ⟨aw, fr⟩

theorem x_settle_F (d : Nat) (τ : TT) (h : HT) (hT : TK τ) (n : Nat) (hn : 3 ≤ n ∧ n ≤ 7) (Z : ZT) (K : G_ mX4_settleWays d 0 0 27 [some (.inr (some 55)), some (.inl (n : Int)), none, none, none, none] [] τ (hf_ h 58 0 n (fun j => h 57 j - (j : Int))) (Z)) : ∀ (n_ : Nat) (i : Nat), n - i < n_ → i ≤ n → G_ mX4_settleWays d 0 0 2 [some (.inr (some 55)), some (.inl (n : Int)), some (.inl (i : Int)), none, none, none] [] τ (hf_ h 58 0 i (fun j => h 57 j - (j : Int))) (Z) := by
  intro n_
  induction n_ with
  | zero => intro i hm_; exact absurd hm_ (Nat.not_lt_zero _)
  | succ n_ ih =>
    intro i hm_ hi
    refine G_iload_n (i := 2) dX4_settleWays_2 rfl rfl ?_
    refine G_iload_n (i := 1) dX4_settleWays_3 rfl rfl ?_
    refine G_icmp_ge (tgt := 27) dX4_settleWays_4 (by decide) (by omega) (by omega) (fun c_1 => ?_) (fun c_1 => ?_)
    · refine G_lsub (ls' := [some (.inr (some 55)), some (.inl (n : Int)), none, none, none, none]) (LS_same (LS_same (LS_none (LS_none (LS_none (LS_none LS_nil)))))) ?_
      obtain rfl : i = n := by omega
      exact K
    · refine G_aload_n (i := 0) dX4_settleWays_7 rfl rfl ?_
      refine G_getR fX4_18 rfl dX4_settleWays_8 (o55 hT) (r55_2 hT) ?_
      refine G_iload_n (i := 2) dX4_settleWays_11 rfl rfl ?_
      refine G_aload_n (i := 0) dX4_settleWays_12 rfl rfl ?_
      refine G_getR fX4_15 rfl dX4_settleWays_13 (o55 hT) (r55_1 hT) ?_
      refine G_iload_n (i := 2) dX4_settleWays_16 rfl rfl ?_
      refine G_iald (v := h 57 i) dX4_settleWays_17 (o57 hT) (by omega) (hf_na (by decide)) ?_
      refine G_iload_n (i := 2) dX4_settleWays_18 rfl rfl ?_
      refine G_isub dX4_settleWays_19 ?_
      refine G_iastk i dX4_settleWays_20 (o58 hT) (by omega) rfl ?_
      refine G_iinc (ls' := [some (.inr (some 55)), some (.inl (n : Int)), some (.inl ((i : Int) + 1)), none, none, none]) dX4_settleWays_21 (by decide) rfl rfl ?_
      refine G_goto (tgt := 2) dX4_settleWays_24 (by decide) ?_
      rw [hf_snoc (Nat.zero_le _) rfl]
      exact ih (i + 1) (by omega) (by omega)

theorem x_settleWays (d : Nat) (τ : TT) (h : HT) (hT : TK τ) (n : Nat) (hn : 3 ≤ n ∧ n ≤ 7) (hr : ∀ j : Nat, j < n → 0 ≤ h 57 j ∧ h 57 j < n) (LL : List Nat) (hLL : zw_set n n (zw_ways 0 (zl n (h 57))) = LL) : S_ mX4_settleWays d 0 0 [.inr (some 55), .inl (n : Int)] τ h (Zv τ fun h' => AW n (h' 58) LL ∧ ∀ b j : Nat, b ≠ 58 → h' b j = h b j) := by
  refine S_go (k := 4) (ls := [some (.inr (some 55)), some (.inl (n : Int)), none, none, none, none]) (by decide) rfl (Nat.le_of_ble_eq_true rfl) rfl ?_
  refine G_iconst dX4_settleWays_0 ?_
  refine G_istore_n (i := 2) (ls' := [some (.inr (some 55)), some (.inl (n : Int)), some (.inl 0), none, none, none]) dX4_settleWays_1 rfl (by decide) rfl ?_
  have z2 := x_settle_F d τ h hT n hn (Zv τ fun h' => AW n (h' 58) LL ∧ ∀ b j : Nat, b ≠ 58 → h' b j = h b j) ?_ _ 0 (Nat.lt_succ_self _) (Nat.zero_le _)
  · rw [hf_nil] at z2; exact z2
  · refine G_iconst dX4_settleWays_27 ?_
    refine G_istore_n (i := 2) (ls' := [some (.inr (some 55)), some (.inl (n : Int)), some (.inl 0), none, none, none]) dX4_settleWays_28 rfl (by decide) rfl ?_
    exact x_settle_T d τ h hT n hn LL _ _ 0 _ (Nat.lt_succ_self _) (Nat.zero_le _) (fun b j z => hf_na z) (AW.start hn.2 hr (fun j hj => hf_in ⟨Nat.zero_le _, hj⟩)) hLL

