/-! the reference: people, ring, pictures, tapes -/
theorem m_isTape (d : Nat) (τ : TT) (h : HT) (hT : TK τ) (t : Int) (r_t : -2147483648 ≤ t ∧ t ≤ 2147483647) : S_ mX12_isTape (d + 1) 0 0 [.inr (some 81), .inl t] τ h (Zi τ fun r h' => r = (if 0 ≤ t ∧ t ≤ 5 then 1 else 0) ∧ h' = h) := by
  refine S_go (k := 0) (ls := [some (.inr (some 81)), some (.inl t)]) (by decide) rfl (Nat.le_of_ble_eq_true rfl) rfl ?_
  refine G_aload_n (i := 0) dX12_isTape_0 rfl rfl ?_
  refine G_iload_n (i := 1) dX12_isTape_1 rfl rfl ?_
  refine G_iconst dX12_isTape_2 ?_
  refine G_iconst dX12_isTape_3 ?_
  refine G_cVq (as := [.inl t, .inl 0, .inl 5]) qX12_195 (m_in d τ _ 81 t 0 5 (by omega) (by decide) (by decide)) rfl rfl (Nat.le_of_ble_eq_true rfl) (o81 hT) dX12_isTape_4 ?_
  refine G_zretZ rfl b01 dX12_isTape_7 ?_
  exact ⟨rfl, rfl⟩

theorem m_isFigure (d : Nat) (τ : TT) (h : HT) (hT : TK τ) (f : Int) (r_f : -2147483648 ≤ f ∧ f ≤ 2147483647) (hn : 0 ≤ h 81 26 ∧ h 81 26 ≤ 10) : S_ mX12_isFigure (d + 1) 0 0 [.inr (some 81), .inl f] τ h (Zi τ fun r h' => r = (if 0 ≤ f ∧ f ≤ h 81 26 - 1 then 1 else 0) ∧ h' = h) := by
  refine S_go (k := 0) (ls := [some (.inr (some 81)), some (.inl f)]) (by decide) rfl (Nat.le_of_ble_eq_true rfl) rfl ?_
  refine G_aload_n (i := 0) dX12_isFigure_0 rfl rfl ?_
  refine G_iload_n (i := 1) dX12_isFigure_1 rfl rfl ?_
  refine G_iconst dX12_isFigure_2 ?_
  refine G_aload_n (i := 0) dX12_isFigure_3 rfl rfl ?_
  refine G_getI (v := h 81 26) fX12_90 rfl dX12_isFigure_4 (o81 hT) rfl ?_
  refine G_iconst dX12_isFigure_7 ?_
  refine G_isub dX12_isFigure_8 ?_
  refine G_cVq (as := [.inl f, .inl 0, .inl ((h 81 26) - 1)]) qX12_195 (m_in d τ _ 81 f 0 ((h 81 26) - 1) (by omega) (by decide) (by omega)) rfl rfl (Nat.le_of_ble_eq_true rfl) (o81 hT) dX12_isFigure_9 ?_
  refine G_zretZ rfl b01 dX12_isFigure_12 ?_
  exact ⟨rfl, rfl⟩

def f_person (h : HT) (k r a : Int) : Int × HT :=
  if ¬ ((0 ≤ k ∧ k ≤ 4) ∧ (1 ≤ r ∧ r ≤ 20) ∧ (1 ≤ a ∧ a ≤ 9)) then (-2, h) else if h 81 0 = 15 then (-4, h) else
  (h 81 0, hs_ (hs_ (hs_ (hs_ h 82 (h 81 0).toNat k) 83 (h 81 0).toNat r) 84 (h 81 0).toNat a) 81 0 (h 81 0 + 1))
theorem m_person (d : Nat) (τ : TT) (h : HT) (hT : TK τ) (k r a : Int) (r_k : -2147483648 ≤ k ∧ k ≤ 2147483647) (r_r : -2147483648 ≤ r ∧ r ≤ 2147483647) (r_a : -2147483648 ≤ a ∧ a ≤ 2147483647) (hp : 0 ≤ h 81 0 ∧ h 81 0 ≤ 15) : S_ mX12_person (d + 1) 0 0 [.inr (some 81), .inl k, .inl r, .inl a] τ h (Zi τ fun v h' => v = (f_person h k r a).1 ∧ h' = (f_person h k r a).2) := by
  refine S_go (k := 0) (ls := [some (.inr (some 81)), some (.inl k), some (.inl r), some (.inl a)]) (by decide) rfl (Nat.le_of_ble_eq_true rfl) rfl ?_
  refine G_aload_n (i := 0) dX12_person_0 rfl rfl ?_
  refine G_iload_n (i := 1) dX12_person_1 rfl rfl ?_
  refine G_iconst dX12_person_2 ?_
  refine G_iconst dX12_person_3 ?_
  refine G_cVq (as := [.inl k, .inl 0, .inl 4]) qX12_195 (m_in d τ _ 81 k 0 4 (by omega) (by decide) (by decide)) rfl rfl (Nat.le_of_ble_eq_true rfl) (o81 hT) dX12_person_4 ?_
  refine G_ifb_eq (tgt := 32) dX12_person_7 (by decide) (fun c_1 => ?_) (fun c_1 => ?_)
  · refine G_bipush dX12_person_32 (by decide) ?_
    refine G_iretZ rfl dX12_person_34 ?_
    unfold f_person; (repeat (first | rw [if_pos (by first | assumption | omega)] | rw [if_neg (by first | assumption | omega)])); first | exact ⟨rfl, rfl⟩ | rfl | (refine ⟨?_, ?_⟩ <;> first | rfl | omega | grind [hs_, hf_]) | grind [hs_, hf_]
  · refine G_aload_n (i := 0) dX12_person_10 rfl rfl ?_
    refine G_iload_n (i := 2) dX12_person_11 rfl rfl ?_
    refine G_iconst dX12_person_12 ?_
    refine G_bipush dX12_person_13 (by decide) ?_
    refine G_cVq (as := [.inl r, .inl 1, .inl 20]) qX12_195 (m_in d τ _ 81 r 1 20 (by omega) (by decide) (by decide)) rfl rfl (Nat.le_of_ble_eq_true rfl) (o81 hT) dX12_person_15 ?_
    refine G_ifb_eq (tgt := 32) dX12_person_18 (by decide) (fun c_2 => ?_) (fun c_2 => ?_)
    · refine G_bipush dX12_person_32 (by decide) ?_
      refine G_iretZ rfl dX12_person_34 ?_
      unfold f_person; (repeat (first | rw [if_pos (by first | assumption | omega)] | rw [if_neg (by first | assumption | omega)])); first | exact ⟨rfl, rfl⟩ | rfl | (refine ⟨?_, ?_⟩ <;> first | rfl | omega | grind [hs_, hf_]) | grind [hs_, hf_]
    · refine G_aload_n (i := 0) dX12_person_21 rfl rfl ?_
      refine G_iload_n (i := 3) dX12_person_22 rfl rfl ?_
      refine G_iconst dX12_person_23 ?_
      refine G_bipush dX12_person_24 (by decide) ?_
      refine G_cVq (as := [.inl a, .inl 1, .inl 9]) qX12_195 (m_in d τ _ 81 a 1 9 (by omega) (by decide) (by decide)) rfl rfl (Nat.le_of_ble_eq_true rfl) (o81 hT) dX12_person_26 ?_
      refine G_ifb_ne (tgt := 35) dX12_person_29 (by decide) (fun c_3 => ?_) (fun c_3 => ?_)
      · refine G_aload_n (i := 0) dX12_person_35 rfl rfl ?_
        refine G_getI (v := h 81 0) fX12_7 rfl dX12_person_36 (o81 hT) rfl ?_
        refine G_bipush dX12_person_39 (by decide) ?_
        refine G_icmp_ne (tgt := 47) dX12_person_41 (by decide) (by omega) (by decide) (fun c_4 => ?_) (fun c_4 => ?_)
        · refine G_aload_n (i := 0) dX12_person_47 rfl rfl ?_
          refine G_getR fX12_16 rfl dX12_person_48 (o81 hT) (r81_2 hT) ?_
          refine G_aload_n (i := 0) dX12_person_51 rfl rfl ?_
          refine G_getI (v := h 81 0) fX12_7 rfl dX12_person_52 (o81 hT) rfl ?_
          refine G_iload_n (i := 1) dX12_person_55 rfl rfl ?_
          refine G_iastk ((h 81 0).toNat) dX12_person_56 (o82 hT) (by omega) rfl ?_
          refine G_aload_n (i := 0) dX12_person_57 rfl rfl ?_
          refine G_getR fX12_20 rfl dX12_person_58 (o81 hT) (r81_3 hT) ?_
          refine G_aload_n (i := 0) dX12_person_61 rfl rfl ?_
          refine G_getI (v := h 81 0) fX12_7 rfl dX12_person_62 (o81 hT) (hs_na (by decide)) ?_
          refine G_iload_n (i := 2) dX12_person_65 rfl rfl ?_
          refine G_iastk ((h 81 0).toNat) dX12_person_66 (o83 hT) (by omega) rfl ?_
          refine G_aload_n (i := 0) dX12_person_67 rfl rfl ?_
          refine G_getR fX12_23 rfl dX12_person_68 (o81 hT) (r81_4 hT) ?_
          refine G_aload_n (i := 0) dX12_person_71 rfl rfl ?_
          refine G_getI (v := h 81 0) fX12_7 rfl dX12_person_72 (o81 hT) ((hs_na (by decide)).trans (hs_na (by decide))) ?_
          refine G_iload_n (i := 3) dX12_person_75 rfl rfl ?_
          refine G_iastk ((h 81 0).toNat) dX12_person_76 (o84 hT) (by omega) rfl ?_
          refine G_aload_n (i := 0) dX12_person_77 rfl rfl ?_
          refine G_dup dX12_person_78 ?_
          refine G_getI (v := h 81 0) fX12_7 rfl dX12_person_79 (o81 hT) ((hs_na (by decide)).trans ((hs_na (by decide)).trans (hs_na (by decide)))) ?_
          refine G_iconst dX12_person_82 ?_
          refine G_iadd dX12_person_83 ?_
          refine G_putI fX12_7 dX12_person_84 (o81 hT) ?_
          refine G_aload_n (i := 0) dX12_person_87 rfl rfl ?_
          refine G_getI (v := (h 81 0) + 1) fX12_7 rfl dX12_person_88 (o81 hT) (hs_eq) ?_
          refine G_iconst dX12_person_91 ?_
          refine G_isub dX12_person_92 ?_
          refine G_iretZ rfl dX12_person_93 ?_
          unfold f_person; (repeat (first | rw [if_pos (by first | assumption | omega)] | rw [if_neg (by first | assumption | omega)])); first | exact ⟨rfl, rfl⟩ | rfl | (refine ⟨?_, ?_⟩ <;> first | rfl | omega | grind [hs_, hf_]) | grind [hs_, hf_]
        · refine G_bipush dX12_person_44 (by decide) ?_
          refine G_iretZ rfl dX12_person_46 ?_
          unfold f_person; (repeat (first | rw [if_pos (by first | assumption | omega)] | rw [if_neg (by first | assumption | omega)])); first | exact ⟨rfl, rfl⟩ | rfl | (refine ⟨?_, ?_⟩ <;> first | rfl | omega | grind [hs_, hf_]) | grind [hs_, hf_]
      · refine G_bipush dX12_person_32 (by decide) ?_
        refine G_iretZ rfl dX12_person_34 ?_
        unfold f_person; (repeat (first | rw [if_pos (by first | assumption | omega)] | rw [if_neg (by first | assumption | omega)])); first | exact ⟨rfl, rfl⟩ | rfl | (refine ⟨?_, ?_⟩ <;> first | rfl | omega | grind [hs_, hf_]) | grind [hs_, hf_]

def f_ribbon (h : HT) (p c l : Int) : Int × HT :=
  if ¬ (0 ≤ p ∧ p ≤ h 81 1 - 1) then (-1, h) else if ¬ ((0 ≤ c ∧ c ≤ 7) ∧ (0 ≤ l ∧ l ≤ 99999)) then (-2, h) else if h 81 11 ≠ 0 then (-3, h) else
  (1, hs_ (hs_ h 87 p.toNat c) 88 p.toNat l)
theorem m_ribbon (d : Nat) (τ : TT) (h : HT) (hT : TK τ) (p c l : Int) (r_p : -2147483648 ≤ p ∧ p ≤ 2147483647) (r_c : -2147483648 ≤ c ∧ c ≤ 2147483647) (r_l : -2147483648 ≤ l ∧ l ≤ 2147483647) (hn : 0 ≤ h 81 1 ∧ h 81 1 ≤ 9) (hd : 0 ≤ h 81 11 ∧ h 81 11 ≤ 1) : S_ mX12_ribbon (d + 2) 0 0 [.inr (some 81), .inl p, .inl c, .inl l] τ h (Zi τ fun v h' => v = (f_ribbon h p c l).1 ∧ h' = (f_ribbon h p c l).2) := by
  refine S_go (k := 0) (ls := [some (.inr (some 81)), some (.inl p), some (.inl c), some (.inl l)]) (by decide) rfl (Nat.le_of_ble_eq_true rfl) rfl ?_
  refine G_aload_n (i := 0) dX12_ribbon_0 rfl rfl ?_
  refine G_iload_n (i := 1) dX12_ribbon_1 rfl rfl ?_
  refine G_cVq (as := [.inl p]) qX12_199 (m_isPlace d τ h hT p (by omega) (by first | omega | grind [hs_, hf_])) rfl rfl (Nat.le_of_ble_eq_true rfl) (o81 hT) dX12_ribbon_2 ?_
  refine G_ifb_ne (tgt := 10) dX12_ribbon_5 (by decide) (fun c_1 => ?_) (fun c_1 => ?_)
  · refine G_aload_n (i := 0) dX12_ribbon_10 rfl rfl ?_
    refine G_iload_n (i := 2) dX12_ribbon_11 rfl rfl ?_
    refine G_iconst dX12_ribbon_12 ?_
    refine G_bipush dX12_ribbon_13 (by decide) ?_
    refine G_cVq (as := [.inl c, .inl 0, .inl 7]) qX12_195 (m_in (d + 1) τ _ 81 c 0 7 (by omega) (by decide) (by decide)) rfl rfl (Nat.le_of_ble_eq_true rfl) (o81 hT) dX12_ribbon_15 ?_
    refine G_ifb_eq (tgt := 32) dX12_ribbon_18 (by decide) (fun c_2 => ?_) (fun c_2 => ?_)
    · refine G_bipush dX12_ribbon_32 (by decide) ?_
      refine G_iretZ rfl dX12_ribbon_34 ?_
      unfold f_ribbon; (repeat (first | rw [if_pos (by first | assumption | omega)] | rw [if_neg (by first | assumption | omega)])); first | exact ⟨rfl, rfl⟩ | rfl | (refine ⟨?_, ?_⟩ <;> first | rfl | omega | grind [hs_, hf_]) | grind [hs_, hf_]
    · refine G_aload_n (i := 0) dX12_ribbon_21 rfl rfl ?_
      refine G_iload_n (i := 3) dX12_ribbon_22 rfl rfl ?_
      refine G_iconst dX12_ribbon_23 ?_
      refine G_ldc (n := 99999) nX12_206 dX12_ribbon_24 ?_
      refine G_cVq (as := [.inl l, .inl 0, .inl 99999]) qX12_195 (m_in (d + 1) τ _ 81 l 0 99999 (by omega) (by decide) (by decide)) rfl rfl (Nat.le_of_ble_eq_true rfl) (o81 hT) dX12_ribbon_26 ?_
      refine G_ifb_ne (tgt := 35) dX12_ribbon_29 (by decide) (fun c_3 => ?_) (fun c_3 => ?_)
      · refine G_aload_n (i := 0) dX12_ribbon_35 rfl rfl ?_
        refine G_getI (v := h 81 11) fX12_44 rfl dX12_ribbon_36 (o81 hT) rfl ?_
        refine G_if_eq (tgt := 45) dX12_ribbon_39 (by decide) (by omega) (fun c_4 => ?_) (fun c_4 => ?_)
        · refine G_aload_n (i := 0) dX12_ribbon_45 rfl rfl ?_
          refine G_getR fX12_32 rfl dX12_ribbon_46 (o81 hT) (r81_7 hT) ?_
          refine G_iload_n (i := 1) dX12_ribbon_49 rfl rfl ?_
          refine G_iload_n (i := 2) dX12_ribbon_50 rfl rfl ?_
          refine G_iastk ((p).toNat) dX12_ribbon_51 (o87 hT) (by omega) rfl ?_
          refine G_aload_n (i := 0) dX12_ribbon_52 rfl rfl ?_
          refine G_getR fX12_35 rfl dX12_ribbon_53 (o81 hT) (r81_8 hT) ?_
          refine G_iload_n (i := 1) dX12_ribbon_56 rfl rfl ?_
          refine G_iload_n (i := 3) dX12_ribbon_57 rfl rfl ?_
          refine G_iastk ((p).toNat) dX12_ribbon_58 (o88 hT) (by omega) rfl ?_
          refine G_iconst dX12_ribbon_59 ?_
          refine G_iretZ rfl dX12_ribbon_60 ?_
          unfold f_ribbon; (repeat (first | rw [if_pos (by first | assumption | omega)] | rw [if_neg (by first | assumption | omega)])); first | exact ⟨rfl, rfl⟩ | rfl | (refine ⟨?_, ?_⟩ <;> first | rfl | omega | grind [hs_, hf_]) | grind [hs_, hf_]
        · refine G_bipush dX12_ribbon_42 (by decide) ?_
          refine G_iretZ rfl dX12_ribbon_44 ?_
          unfold f_ribbon; (repeat (first | rw [if_pos (by first | assumption | omega)] | rw [if_neg (by first | assumption | omega)])); first | exact ⟨rfl, rfl⟩ | rfl | (refine ⟨?_, ?_⟩ <;> first | rfl | omega | grind [hs_, hf_]) | grind [hs_, hf_]
      · refine G_bipush dX12_ribbon_32 (by decide) ?_
        refine G_iretZ rfl dX12_ribbon_34 ?_
        unfold f_ribbon; (repeat (first | rw [if_pos (by first | assumption | omega)] | rw [if_neg (by first | assumption | omega)])); first | exact ⟨rfl, rfl⟩ | rfl | (refine ⟨?_, ?_⟩ <;> first | rfl | omega | grind [hs_, hf_]) | grind [hs_, hf_]
  · refine G_iconst dX12_ribbon_8 ?_
    refine G_iretZ rfl dX12_ribbon_9 ?_
    unfold f_ribbon; (repeat (first | rw [if_pos (by first | assumption | omega)] | rw [if_neg (by first | assumption | omega)])); first | exact ⟨rfl, rfl⟩ | rfl | (refine ⟨?_, ?_⟩ <;> first | rfl | omega | grind [hs_, hf_]) | grind [hs_, hf_]

def f_at (h : HT) (p w : Int) : Int :=
  if ¬ ((0 ≤ p ∧ p ≤ h 81 1 - 1) ∧ (0 ≤ w ∧ w ≤ 3)) then -6 else if w = 0 then h 85 p.toNat else if w = 1 then h 87 (h 86 p.toNat).toNat else if w = 2 then h 88 (h 86 p.toNat).toNat else h 86 p.toNat
theorem m_at (d : Nat) (τ : TT) (h : HT) (hT : TK τ) (p w : Int) (r_p : -2147483648 ≤ p ∧ p ≤ 2147483647) (r_w : -2147483648 ≤ w ∧ w ≤ 2147483647) (hn : 0 ≤ h 81 1 ∧ h 81 1 ≤ 9) (hh : ∀ k : Nat, (k : Int) < h 81 1 → 0 ≤ h 86 k ∧ h 86 k < h 81 1) : S_ mX12_at (d + 2) 0 0 [.inr (some 81), .inl p, .inl w] τ h (Zi τ fun v h' => v = f_at h p w ∧ h' = h) := by
  refine S_go (k := 0) (ls := [some (.inr (some 81)), some (.inl p), some (.inl w)]) (by decide) rfl (Nat.le_of_ble_eq_true rfl) rfl ?_
  refine G_aload_n (i := 0) dX12_at_0 rfl rfl ?_
  refine G_iload_n (i := 1) dX12_at_1 rfl rfl ?_
  refine G_cVq (as := [.inl p]) qX12_199 (m_isPlace d τ h hT p (by omega) (by first | omega | grind [hs_, hf_])) rfl rfl (Nat.le_of_ble_eq_true rfl) (o81 hT) dX12_at_2 ?_
  refine G_ifb_eq (tgt := 18) dX12_at_5 (by decide) (fun c_1 => ?_) (fun c_1 => ?_)
  · refine G_bipush dX12_at_18 (by decide) ?_
    refine G_iretZ rfl dX12_at_20 ?_
    unfold f_at; (repeat (first | rw [if_pos (by first | assumption | omega)] | rw [if_neg (by first | assumption | omega)])); first | exact ⟨rfl, rfl⟩ | rfl | (refine ⟨?_, ?_⟩ <;> first | rfl | omega | grind [hs_, hf_]) | grind [hs_, hf_]
  · refine G_aload_n (i := 0) dX12_at_8 rfl rfl ?_
    refine G_iload_n (i := 2) dX12_at_9 rfl rfl ?_
    refine G_iconst dX12_at_10 ?_
    refine G_iconst dX12_at_11 ?_
    refine G_cVq (as := [.inl w, .inl 0, .inl 3]) qX12_195 (m_in (d + 1) τ _ 81 w 0 3 (by omega) (by decide) (by decide)) rfl rfl (Nat.le_of_ble_eq_true rfl) (o81 hT) dX12_at_12 ?_
    refine G_ifb_ne (tgt := 21) dX12_at_15 (by decide) (fun c_2 => ?_) (fun c_2 => ?_)
    · refine G_iload_n (i := 2) dX12_at_21 rfl rfl ?_
      suffices K_5 : ∀ x_4 : Int, x_4 = (if w = 0 then h 85 ((p).toNat) else (if w = 1 then h 87 ((h 86 ((p).toNat)).toNat) else (if w = 2 then h 88 ((h 86 ((p).toNat)).toNat) else h 86 ((p).toNat)))) → G_ mX12_at (d + 2) 0 0 78 [some (.inr (some 81)), some (.inl p), some (.inl w)] [.inl x_4] τ h (Zi τ fun v h' => v = f_at h p w ∧ h' = h) by
        refine G_if_ne (tgt := 34) dX12_at_22 (by decide) (by omega) (fun c_3 => ?_) (fun c_3 => ?_)
        · refine G_iload_n (i := 2) dX12_at_34 rfl rfl ?_
          refine G_iconst dX12_at_35 ?_
          refine G_icmp_ne (tgt := 53) dX12_at_36 (by decide) (by omega) (by decide) (fun c_6 => ?_) (fun c_6 => ?_)
          · refine G_iload_n (i := 2) dX12_at_53 rfl rfl ?_
            refine G_iconst dX12_at_54 ?_
            refine G_icmp_ne (tgt := 72) dX12_at_55 (by decide) (by omega) (by decide) (fun c_7 => ?_) (fun c_7 => ?_)
            · refine G_aload_n (i := 0) dX12_at_72 rfl rfl ?_
              refine G_getR fX12_29 rfl dX12_at_73 (o81 hT) (r81_6 hT) ?_
              refine G_iload_n (i := 1) dX12_at_76 rfl rfl ?_
              refine G_iald (v := h 86 ((p).toNat)) dX12_at_77 (o86 hT) (by omega) rfl ?_
              have e_ := hh (p).toNat (by omega)
              exact K_5 _ ((if_neg c_3).trans ((if_neg c_6).trans (if_neg c_7))).symm
            · refine G_aload_n (i := 0) dX12_at_58 rfl rfl ?_
              refine G_getR fX12_35 rfl dX12_at_59 (o81 hT) (r81_8 hT) ?_
              refine G_aload_n (i := 0) dX12_at_62 rfl rfl ?_
              refine G_getR fX12_29 rfl dX12_at_63 (o81 hT) (r81_6 hT) ?_
              refine G_iload_n (i := 1) dX12_at_66 rfl rfl ?_
              refine G_iald (v := h 86 ((p).toNat)) dX12_at_67 (o86 hT) (by omega) rfl ?_
              have e_ := hh (p).toNat (by omega)
              refine G_iald (v := h 88 ((h 86 ((p).toNat)).toNat)) dX12_at_68 (o88 hT) (by omega) rfl ?_
              refine G_goto (tgt := 78) dX12_at_69 (by decide) ?_
              exact K_5 _ ((if_neg c_3).trans ((if_neg c_6).trans (if_pos c_7))).symm
          · refine G_aload_n (i := 0) dX12_at_39 rfl rfl ?_
            refine G_getR fX12_32 rfl dX12_at_40 (o81 hT) (r81_7 hT) ?_
            refine G_aload_n (i := 0) dX12_at_43 rfl rfl ?_
            refine G_getR fX12_29 rfl dX12_at_44 (o81 hT) (r81_6 hT) ?_
            refine G_iload_n (i := 1) dX12_at_47 rfl rfl ?_
            refine G_iald (v := h 86 ((p).toNat)) dX12_at_48 (o86 hT) (by omega) rfl ?_
            have e_ := hh (p).toNat (by omega)
            refine G_iald (v := h 87 ((h 86 ((p).toNat)).toNat)) dX12_at_49 (o87 hT) (by omega) rfl ?_
            refine G_goto (tgt := 78) dX12_at_50 (by decide) ?_
            exact K_5 _ ((if_neg c_3).trans (if_pos c_6)).symm
        · refine G_aload_n (i := 0) dX12_at_25 rfl rfl ?_
          refine G_getR fX12_26 rfl dX12_at_26 (o81 hT) (r81_5 hT) ?_
          refine G_iload_n (i := 1) dX12_at_29 rfl rfl ?_
          refine G_iald (v := h 85 ((p).toNat)) dX12_at_30 (o85 hT) (by omega) rfl ?_
          refine G_goto (tgt := 78) dX12_at_31 (by decide) ?_
          exact K_5 _ (if_pos c_3).symm
      intro x_4 ex_4
      refine G_iretZ rfl dX12_at_78 ?_
      unfold f_at; (repeat (first | rw [if_pos (by first | assumption | omega)] | rw [if_neg (by first | assumption | omega)])); first | exact ⟨rfl, rfl⟩ | rfl | (refine ⟨?_, ?_⟩ <;> first | rfl | omega | grind [hs_, hf_]) | grind [hs_, hf_]
    · refine G_bipush dX12_at_18 (by decide) ?_
      refine G_iretZ rfl dX12_at_20 ?_
      unfold f_at; (repeat (first | rw [if_pos (by first | assumption | omega)] | rw [if_neg (by first | assumption | omega)])); first | exact ⟨rfl, rfl⟩ | rfl | (refine ⟨?_, ?_⟩ <;> first | rfl | omega | grind [hs_, hf_]) | grind [hs_, hf_]

def f_step (h : HT) (i : Int) : Int :=
  if 0 ≤ i ∧ i ≤ h 81 14 - 1 then h 93 i.toNat else -1
theorem m_step (d : Nat) (τ : TT) (h : HT) (hT : TK τ) (i : Int) (r_i : -2147483648 ≤ i ∧ i ≤ 2147483647) (hst : 0 ≤ h 81 14 ∧ h 81 14 ≤ 300) : S_ mX12_step (d + 1) 0 0 [.inr (some 81), .inl i] τ h (Zi τ fun v h' => v = f_step h i ∧ h' = h) := by
  refine S_go (k := 0) (ls := [some (.inr (some 81)), some (.inl i)]) (by decide) rfl (Nat.le_of_ble_eq_true rfl) rfl ?_
  refine G_aload_n (i := 0) dX12_step_0 rfl rfl ?_
  refine G_iload_n (i := 1) dX12_step_1 rfl rfl ?_
  refine G_iconst dX12_step_2 ?_
  refine G_aload_n (i := 0) dX12_step_3 rfl rfl ?_
  refine G_getI (v := h 81 14) fX12_54 rfl dX12_step_4 (o81 hT) rfl ?_
  refine G_iconst dX12_step_7 ?_
  refine G_isub dX12_step_8 ?_
  refine G_cVq (as := [.inl i, .inl 0, .inl ((h 81 14) - 1)]) qX12_195 (m_in d τ _ 81 i 0 ((h 81 14) - 1) (by omega) (by decide) (by omega)) rfl rfl (Nat.le_of_ble_eq_true rfl) (o81 hT) dX12_step_9 ?_
  suffices K_3 : ∀ x_2 : Int, x_2 = (if (0 ≤ i ∧ i ≤ ((h 81 14) - 1)) then h 93 ((i).toNat) else (-1)) → G_ mX12_step (d + 1) 0 0 25 [some (.inr (some 81)), some (.inl i)] [.inl x_2] τ h (Zi τ fun v h' => v = f_step h i ∧ h' = h) by
    refine G_ifb_eq (tgt := 24) dX12_step_12 (by decide) (fun c_1 => ?_) (fun c_1 => ?_)
    · refine G_iconst dX12_step_24 ?_
      exact K_3 _ (if_neg c_1).symm
    · refine G_aload_n (i := 0) dX12_step_15 rfl rfl ?_
      refine G_getR fX12_60 rfl dX12_step_16 (o81 hT) (r81_16 hT) ?_
      refine G_iload_n (i := 1) dX12_step_19 rfl rfl ?_
      refine G_iald (v := h 93 ((i).toNat)) dX12_step_20 (o93 hT) (by omega) rfl ?_
      refine G_goto (tgt := 25) dX12_step_21 (by decide) ?_
      exact K_3 _ (if_pos c_1).symm
  intro x_2 ex_2
  refine G_iretZ rfl dX12_step_25 ?_
  unfold f_step; (repeat (first | rw [if_pos (by first | assumption | omega)] | rw [if_neg (by first | assumption | omega)])); first | exact ⟨rfl, rfl⟩ | rfl | (refine ⟨?_, ?_⟩ <;> first | rfl | omega | grind [hs_, hf_]) | grind [hs_, hf_]

def f_rows (h : HT) : Int :=
  h 81 15
theorem m_rows (d : Nat) (τ : TT) (h : HT) (hT : TK τ)   : S_ mX12_rows d 0 0 [.inr (some 81)] τ h (Zi τ fun v h' => v = f_rows h  ∧ h' = h) := by
  refine S_go (k := 0) (ls := [some (.inr (some 81))]) (by decide) rfl (Nat.le_of_ble_eq_true rfl) rfl ?_
  refine G_aload_n (i := 0) dX12_rows_0 rfl rfl ?_
  refine G_getI (v := h 81 15) fX12_57 rfl dX12_rows_1 (o81 hT) rfl ?_
  refine G_iretZ rfl dX12_rows_4 ?_
  unfold f_rows; (repeat (first | rw [if_pos (by first | assumption | omega)] | rw [if_neg (by first | assumption | omega)])); first | exact ⟨rfl, rfl⟩ | rfl | (refine ⟨?_, ?_⟩ <;> first | rfl | omega | grind [hs_, hf_]) | grind [hs_, hf_]

def f_picture (h : HT) (r p c : Int) : Int × HT :=
  if ¬ ((0 ≤ r ∧ r ≤ 99) ∧ (0 ≤ p ∧ p ≤ 8)) then (-1, h) else if ¬ (0 ≤ c ∧ c ≤ 7) then (-2, h) else if h 81 20 = 40 then (-4, h) else
  (h 81 20 + 1, hs_ (hs_ (hs_ (hs_ h 97 (h 81 20).toNat r) 98 (h 81 20).toNat p) 99 (h 81 20).toNat c) 81 20 (h 81 20 + 1))
theorem m_picture (d : Nat) (τ : TT) (h : HT) (hT : TK τ) (r p c : Int) (r_r : -2147483648 ≤ r ∧ r ≤ 2147483647) (r_p : -2147483648 ≤ p ∧ p ≤ 2147483647) (r_c : -2147483648 ≤ c ∧ c ≤ 2147483647) (hth : 0 ≤ h 81 20 ∧ h 81 20 ≤ 40) : S_ mX12_picture (d + 1) 0 0 [.inr (some 81), .inl r, .inl p, .inl c] τ h (Zi τ fun v h' => v = (f_picture h r p c).1 ∧ h' = (f_picture h r p c).2) := by
  refine S_go (k := 0) (ls := [some (.inr (some 81)), some (.inl r), some (.inl p), some (.inl c)]) (by decide) rfl (Nat.le_of_ble_eq_true rfl) rfl ?_
  refine G_aload_n (i := 0) dX12_picture_0 rfl rfl ?_
  refine G_iload_n (i := 1) dX12_picture_1 rfl rfl ?_
  refine G_iconst dX12_picture_2 ?_
  refine G_bipush dX12_picture_3 (by decide) ?_
  refine G_cVq (as := [.inl r, .inl 0, .inl 99]) qX12_195 (m_in d τ _ 81 r 0 99 (by omega) (by decide) (by decide)) rfl rfl (Nat.le_of_ble_eq_true rfl) (o81 hT) dX12_picture_5 ?_
  refine G_ifb_eq (tgt := 22) dX12_picture_8 (by decide) (fun c_1 => ?_) (fun c_1 => ?_)
  · refine G_iconst dX12_picture_22 ?_
    refine G_iretZ rfl dX12_picture_23 ?_
    unfold f_picture; (repeat (first | rw [if_pos (by first | assumption | omega)] | rw [if_neg (by first | assumption | omega)])); first | exact ⟨rfl, rfl⟩ | rfl | (refine ⟨?_, ?_⟩ <;> first | rfl | omega | grind [hs_, hf_]) | grind [hs_, hf_]
  · refine G_aload_n (i := 0) dX12_picture_11 rfl rfl ?_
    refine G_iload_n (i := 2) dX12_picture_12 rfl rfl ?_
    refine G_iconst dX12_picture_13 ?_
    refine G_bipush dX12_picture_14 (by decide) ?_
    refine G_cVq (as := [.inl p, .inl 0, .inl 8]) qX12_195 (m_in d τ _ 81 p 0 8 (by omega) (by decide) (by decide)) rfl rfl (Nat.le_of_ble_eq_true rfl) (o81 hT) dX12_picture_16 ?_
    refine G_ifb_ne (tgt := 24) dX12_picture_19 (by decide) (fun c_2 => ?_) (fun c_2 => ?_)
    · refine G_aload_n (i := 0) dX12_picture_24 rfl rfl ?_
      refine G_iload_n (i := 3) dX12_picture_25 rfl rfl ?_
      refine G_iconst dX12_picture_26 ?_
      refine G_bipush dX12_picture_27 (by decide) ?_
      refine G_cVq (as := [.inl c, .inl 0, .inl 7]) qX12_195 (m_in d τ _ 81 c 0 7 (by omega) (by decide) (by decide)) rfl rfl (Nat.le_of_ble_eq_true rfl) (o81 hT) dX12_picture_29 ?_
      refine G_ifb_ne (tgt := 38) dX12_picture_32 (by decide) (fun c_3 => ?_) (fun c_3 => ?_)
      · refine G_aload_n (i := 0) dX12_picture_38 rfl rfl ?_
        refine G_getI (v := h 81 20) fX12_72 rfl dX12_picture_39 (o81 hT) rfl ?_
        refine G_bipush dX12_picture_42 (by decide) ?_
        refine G_icmp_ne (tgt := 50) dX12_picture_44 (by decide) (by omega) (by decide) (fun c_4 => ?_) (fun c_4 => ?_)
        · refine G_aload_n (i := 0) dX12_picture_50 rfl rfl ?_
          refine G_getR fX12_75 rfl dX12_picture_51 (o81 hT) (r81_21 hT) ?_
          refine G_aload_n (i := 0) dX12_picture_54 rfl rfl ?_
          refine G_getI (v := h 81 20) fX12_72 rfl dX12_picture_55 (o81 hT) rfl ?_
          refine G_iload_n (i := 1) dX12_picture_58 rfl rfl ?_
          refine G_iastk ((h 81 20).toNat) dX12_picture_59 (o97 hT) (by omega) rfl ?_
          refine G_aload_n (i := 0) dX12_picture_60 rfl rfl ?_
          refine G_getR fX12_78 rfl dX12_picture_61 (o81 hT) (r81_22 hT) ?_
          refine G_aload_n (i := 0) dX12_picture_64 rfl rfl ?_
          refine G_getI (v := h 81 20) fX12_72 rfl dX12_picture_65 (o81 hT) (hs_na (by decide)) ?_
          refine G_iload_n (i := 2) dX12_picture_68 rfl rfl ?_
          refine G_iastk ((h 81 20).toNat) dX12_picture_69 (o98 hT) (by omega) rfl ?_
          refine G_aload_n (i := 0) dX12_picture_70 rfl rfl ?_
          refine G_getR fX12_81 rfl dX12_picture_71 (o81 hT) (r81_23 hT) ?_
          refine G_aload_n (i := 0) dX12_picture_74 rfl rfl ?_
          refine G_getI (v := h 81 20) fX12_72 rfl dX12_picture_75 (o81 hT) ((hs_na (by decide)).trans (hs_na (by decide))) ?_
          refine G_iload_n (i := 3) dX12_picture_78 rfl rfl ?_
          refine G_iastk ((h 81 20).toNat) dX12_picture_79 (o99 hT) (by omega) rfl ?_
          refine G_aload_n (i := 0) dX12_picture_80 rfl rfl ?_
          refine G_dup dX12_picture_81 ?_
          refine G_getI (v := h 81 20) fX12_72 rfl dX12_picture_82 (o81 hT) ((hs_na (by decide)).trans ((hs_na (by decide)).trans (hs_na (by decide)))) ?_
          refine G_iconst dX12_picture_85 ?_
          refine G_iadd dX12_picture_86 ?_
          refine G_putI fX12_72 dX12_picture_87 (o81 hT) ?_
          refine G_aload_n (i := 0) dX12_picture_90 rfl rfl ?_
          refine G_getI (v := (h 81 20) + 1) fX12_72 rfl dX12_picture_91 (o81 hT) (hs_eq) ?_
          refine G_iretZ rfl dX12_picture_94 ?_
          unfold f_picture; (repeat (first | rw [if_pos (by first | assumption | omega)] | rw [if_neg (by first | assumption | omega)])); first | exact ⟨rfl, rfl⟩ | rfl | (refine ⟨?_, ?_⟩ <;> first | rfl | omega | grind [hs_, hf_]) | grind [hs_, hf_]
        · refine G_bipush dX12_picture_47 (by decide) ?_
          refine G_iretZ rfl dX12_picture_49 ?_
          unfold f_picture; (repeat (first | rw [if_pos (by first | assumption | omega)] | rw [if_neg (by first | assumption | omega)])); first | exact ⟨rfl, rfl⟩ | rfl | (refine ⟨?_, ?_⟩ <;> first | rfl | omega | grind [hs_, hf_]) | grind [hs_, hf_]
      · refine G_bipush dX12_picture_35 (by decide) ?_
        refine G_iretZ rfl dX12_picture_37 ?_
        unfold f_picture; (repeat (first | rw [if_pos (by first | assumption | omega)] | rw [if_neg (by first | assumption | omega)])); first | exact ⟨rfl, rfl⟩ | rfl | (refine ⟨?_, ?_⟩ <;> first | rfl | omega | grind [hs_, hf_]) | grind [hs_, hf_]
    · refine G_iconst dX12_picture_22 ?_
      refine G_iretZ rfl dX12_picture_23 ?_
      unfold f_picture; (repeat (first | rw [if_pos (by first | assumption | omega)] | rw [if_neg (by first | assumption | omega)])); first | exact ⟨rfl, rfl⟩ | rfl | (refine ⟨?_, ?_⟩ <;> first | rfl | omega | grind [hs_, hf_]) | grind [hs_, hf_]

def f_pictureless (h : HT) : Int × HT :=
  (h 81 20, hs_ h 81 20 0)
theorem m_pictureless (d : Nat) (τ : TT) (h : HT) (hT : TK τ)   : S_ mX12_pictureless d 0 0 [.inr (some 81)] τ h (Zi τ fun v h' => v = (f_pictureless h ).1 ∧ h' = (f_pictureless h ).2) := by
  refine S_go (k := 1) (ls := [some (.inr (some 81)), none]) (by decide) rfl (Nat.le_of_ble_eq_true rfl) rfl ?_
  refine G_aload_n (i := 0) dX12_pictureless_0 rfl rfl ?_
  refine G_getI (v := h 81 20) fX12_72 rfl dX12_pictureless_1 (o81 hT) rfl ?_
  refine G_istore_n (i := 1) (ls' := [some (.inr (some 81)), some (.inl (h 81 20))]) dX12_pictureless_4 rfl (by decide) rfl ?_
  refine G_aload_n (i := 0) dX12_pictureless_5 rfl rfl ?_
  refine G_iconst dX12_pictureless_6 ?_
  refine G_putI fX12_72 dX12_pictureless_7 (o81 hT) ?_
  refine G_iload_n (i := 1) dX12_pictureless_10 rfl rfl ?_
  refine G_iretZ rfl dX12_pictureless_11 ?_
  unfold f_pictureless; (repeat (first | rw [if_pos (by first | assumption | omega)] | rw [if_neg (by first | assumption | omega)])); first | exact ⟨rfl, rfl⟩ | rfl | (refine ⟨?_, ?_⟩ <;> first | rfl | omega | grind [hs_, hf_]) | grind [hs_, hf_]

def f_stand (h : HT) (p q : Int) : Int × HT :=
  if ¬ ((0 ≤ p ∧ p ≤ h 81 1 - 1) ∧ (0 ≤ q ∧ q ≤ h 81 0 - 1)) then (-1, h) else if h 81 11 ≠ 0 then (-3, h) else if ∃ k, k < (h 81 1).toNat ∧ h 85 k = q then (-3, h) else if h 82 q.toNat = 4 then (-12, h) else (h 85 p.toNat, hs_ h 85 p.toNat q)
theorem m_stand_L (d : Nat) (τ : TT) (h : HT) (hT : TK τ) (p q : Int) (r_p : -2147483648 ≤ p ∧ p ≤ 2147483647) (r_q : -2147483648 ≤ q ∧ q ≤ 2147483647) (hp : 0 ≤ h 81 0 ∧ h 81 0 ≤ 15) (hn : 0 ≤ h 81 1 ∧ h 81 1 ≤ 9) (hd : 0 ≤ h 81 11 ∧ h 81 11 ≤ 1) (hw : ∀ k : Nat, k < 9 → -5 ≤ h 85 k ∧ h 85 k ≤ 15) (hk : ∀ k : Nat, k < 15 → 0 ≤ h 82 k ∧ h 82 k ≤ 4) (g1 : 0 ≤ p ∧ p ≤ h 81 1 - 1) (g2 : 0 ≤ q ∧ q ≤ h 81 0 - 1) (g3 : h 81 11 = 0) : ∀ (n_ : Nat) (i : Nat), (h 81 1).toNat - i < n_ → (i : Int) ≤ h 81 1 → (∀ j : Nat, j < i → h 85 j ≠ q) → G_ mX12_stand (d + 2) 0 0 30 [some (.inr (some 81)), some (.inl p), some (.inl q), some (.inl (i : Int))] [] τ h (Zi τ fun v h' => v = (f_stand h p q).1 ∧ h' = (f_stand h p q).2) := by
  intro n_
  induction n_ with
  | zero => intro i hm_; exact absurd hm_ (Nat.not_lt_zero _)
  | succ n_ ih =>
    intro i hm_ hi hj
    refine G_iload_n (i := 3) dX12_stand_30 rfl rfl ?_
    refine G_aload_n (i := 0) dX12_stand_31 rfl rfl ?_
    refine G_getI (v := h 81 1) fX12_13 rfl dX12_stand_32 (o81 hT) rfl ?_
    refine G_icmp_ge (tgt := 57) dX12_stand_35 (by decide) (by omega) (by omega) (fun c_1 => ?_) (fun c_1 => ?_)
    · refine G_aload_n (i := 0) dX12_stand_57 rfl rfl ?_
      refine G_getR fX12_16 rfl dX12_stand_58 (o81 hT) (r81_2 hT) ?_
      refine G_iload_n (i := 2) dX12_stand_61 rfl rfl ?_
      refine G_iald (v := h 82 ((q).toNat)) dX12_stand_62 (o82 hT) (by omega) rfl ?_
      have e_ := hk (q).toNat (by omega)
      refine G_iconst dX12_stand_63 ?_
      refine G_icmp_ne (tgt := 70) dX12_stand_64 (by decide) (by omega) (by decide) (fun c_2 => ?_) (fun c_2 => ?_)
      · refine G_aload_n (i := 0) dX12_stand_70 rfl rfl ?_
        refine G_getR fX12_26 rfl dX12_stand_71 (o81 hT) (r81_5 hT) ?_
        refine G_iload_n (i := 1) dX12_stand_74 rfl rfl ?_
        refine G_iald (v := h 85 ((p).toNat)) dX12_stand_75 (o85 hT) (by omega) rfl ?_
        have e_ := hw (p).toNat (by omega)
        refine G_istore_n (i := 3) (ls' := [some (.inr (some 81)), some (.inl p), some (.inl q), some (.inl (h 85 ((p).toNat)))]) dX12_stand_76 rfl (by decide) rfl ?_
        refine G_aload_n (i := 0) dX12_stand_77 rfl rfl ?_
        refine G_getR fX12_26 rfl dX12_stand_78 (o81 hT) (r81_5 hT) ?_
        refine G_iload_n (i := 1) dX12_stand_81 rfl rfl ?_
        refine G_iload_n (i := 2) dX12_stand_82 rfl rfl ?_
        refine G_iastk ((p).toNat) dX12_stand_83 (o85 hT) (by omega) rfl ?_
        refine G_iload_n (i := 3) dX12_stand_84 rfl rfl ?_
        refine G_iretZ rfl dX12_stand_85 ?_
        have hx : ¬ ∃ k, k < (h 81 1).toNat ∧ h 85 k = q := by rintro ⟨k, k1, k2⟩; exact hj k (by omega) k2
        unfold f_stand; (repeat (first | rw [if_pos (by first | assumption | omega)] | rw [if_neg (by first | assumption | omega)])); first | exact ⟨rfl, rfl⟩ | rfl | (refine ⟨?_, ?_⟩ <;> first | rfl | omega | grind [hs_, hf_]) | grind [hs_, hf_]
      · refine G_bipush dX12_stand_67 (by decide) ?_
        refine G_iretZ rfl dX12_stand_69 ?_
        have hx : ¬ ∃ k, k < (h 81 1).toNat ∧ h 85 k = q := by rintro ⟨k, k1, k2⟩; exact hj k (by omega) k2
        unfold f_stand; (repeat (first | rw [if_pos (by first | assumption | omega)] | rw [if_neg (by first | assumption | omega)])); first | exact ⟨rfl, rfl⟩ | rfl | (refine ⟨?_, ?_⟩ <;> first | rfl | omega | grind [hs_, hf_]) | grind [hs_, hf_]
    · refine G_aload_n (i := 0) dX12_stand_38 rfl rfl ?_
      refine G_getR fX12_26 rfl dX12_stand_39 (o81 hT) (r81_5 hT) ?_
      refine G_iload_n (i := 3) dX12_stand_42 rfl rfl ?_
      refine G_iald (v := h 85 i) dX12_stand_43 (o85 hT) (by omega) rfl ?_
      have e_ := hw i (by omega)
      refine G_iload_n (i := 2) dX12_stand_44 rfl rfl ?_
      refine G_icmp_ne (tgt := 51) dX12_stand_45 (by decide) (by omega) (by omega) (fun c_3 => ?_) (fun c_3 => ?_)
      · refine G_iinc (ls' := [some (.inr (some 81)), some (.inl p), some (.inl q), some (.inl ((i : Int) + 1))]) dX12_stand_51 (by decide) rfl rfl ?_
        refine G_goto (tgt := 30) dX12_stand_54 (by decide) ?_
        exact ih (i + 1) (by omega) (by omega) (by grind)
      · refine G_bipush dX12_stand_48 (by decide) ?_
        refine G_iretZ rfl dX12_stand_50 ?_
        have hx : ∃ k, k < (h 81 1).toNat ∧ h 85 k = q := ⟨i, by omega, by omega⟩
        unfold f_stand; (repeat (first | rw [if_pos (by first | assumption | omega)] | rw [if_neg (by first | assumption | omega)])); first | exact ⟨rfl, rfl⟩ | rfl | (refine ⟨?_, ?_⟩ <;> first | rfl | omega | grind [hs_, hf_]) | grind [hs_, hf_]

theorem m_stand (d : Nat) (τ : TT) (h : HT) (hT : TK τ) (p q : Int) (r_p : -2147483648 ≤ p ∧ p ≤ 2147483647) (r_q : -2147483648 ≤ q ∧ q ≤ 2147483647) (hp : 0 ≤ h 81 0 ∧ h 81 0 ≤ 15) (hn : 0 ≤ h 81 1 ∧ h 81 1 ≤ 9) (hd : 0 ≤ h 81 11 ∧ h 81 11 ≤ 1) (hw : ∀ k : Nat, k < 9 → -5 ≤ h 85 k ∧ h 85 k ≤ 15) (hk : ∀ k : Nat, k < 15 → 0 ≤ h 82 k ∧ h 82 k ≤ 4) : S_ mX12_stand (d + 2) 0 0 [.inr (some 81), .inl p, .inl q] τ h (Zi τ fun v h' => v = (f_stand h p q).1 ∧ h' = (f_stand h p q).2) := by
  refine S_go (k := 1) (ls := [some (.inr (some 81)), some (.inl p), some (.inl q), none]) (by decide) rfl (Nat.le_of_ble_eq_true rfl) rfl ?_
  refine G_aload_n (i := 0) dX12_stand_0 rfl rfl ?_
  refine G_iload_n (i := 1) dX12_stand_1 rfl rfl ?_
  refine G_cVq (as := [.inl p]) qX12_199 (m_isPlace d τ h hT p (by omega) (by first | omega | grind [hs_, hf_])) rfl rfl (Nat.le_of_ble_eq_true rfl) (o81 hT) dX12_stand_2 ?_
  refine G_ifb_eq (tgt := 16) dX12_stand_5 (by decide) (fun c_1 => ?_) (fun c_1 => ?_)
  · refine G_iconst dX12_stand_16 ?_
    refine G_iretZ rfl dX12_stand_17 ?_
    unfold f_stand; (repeat (first | rw [if_pos (by first | assumption | omega)] | rw [if_neg (by first | assumption | omega)])); first | exact ⟨rfl, rfl⟩ | rfl | (refine ⟨?_, ?_⟩ <;> first | rfl | omega | grind [hs_, hf_]) | grind [hs_, hf_]
  · refine G_aload_n (i := 0) dX12_stand_8 rfl rfl ?_
    refine G_iload_n (i := 2) dX12_stand_9 rfl rfl ?_
    refine G_cVq (as := [.inl q]) qX12_203 (m_isPerson d τ h hT q (by omega) (by first | omega | grind [hs_, hf_])) rfl rfl (Nat.le_of_ble_eq_true rfl) (o81 hT) dX12_stand_10 ?_
    refine G_ifb_ne (tgt := 18) dX12_stand_13 (by decide) (fun c_2 => ?_) (fun c_2 => ?_)
    · refine G_aload_n (i := 0) dX12_stand_18 rfl rfl ?_
      refine G_getI (v := h 81 11) fX12_44 rfl dX12_stand_19 (o81 hT) rfl ?_
      refine G_if_eq (tgt := 28) dX12_stand_22 (by decide) (by omega) (fun c_3 => ?_) (fun c_3 => ?_)
      · refine G_iconst dX12_stand_28 ?_
        refine G_istore_n (i := 3) (ls' := [some (.inr (some 81)), some (.inl p), some (.inl q), some (.inl 0)]) dX12_stand_29 rfl (by decide) rfl ?_
        exact m_stand_L d τ h hT p q r_p r_q hp hn hd hw hk (by omega) (by omega) (by omega) _ 0 (Nat.lt_succ_self _) (by omega) (by grind)
      · refine G_bipush dX12_stand_25 (by decide) ?_
        refine G_iretZ rfl dX12_stand_27 ?_
        unfold f_stand; (repeat (first | rw [if_pos (by first | assumption | omega)] | rw [if_neg (by first | assumption | omega)])); first | exact ⟨rfl, rfl⟩ | rfl | (refine ⟨?_, ?_⟩ <;> first | rfl | omega | grind [hs_, hf_]) | grind [hs_, hf_]
    · refine G_iconst dX12_stand_16 ?_
      refine G_iretZ rfl dX12_stand_17 ?_
      unfold f_stand; (repeat (first | rw [if_pos (by first | assumption | omega)] | rw [if_neg (by first | assumption | omega)])); first | exact ⟨rfl, rfl⟩ | rfl | (refine ⟨?_, ?_⟩ <;> first | rfl | omega | grind [hs_, hf_]) | grind [hs_, hf_]

