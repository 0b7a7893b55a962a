/-! the reference: the cloth -/
theorem bAnd {P Q : Prop} [Decidable P] [Decidable Q] : (if P then (if Q then (1 : Int) else 0) else 0) = if P ∧ Q then 1 else 0 := by
  by_cases a : P <;> by_cases b : Q <;> simp [a, b]
theorem bCg {P Q : Prop} [Decidable P] [Decidable Q] (e : P ↔ Q) : (if P then (1 : Int) else 0) = if Q then 1 else 0 := by
  by_cases a : P
  · rw [if_pos a, if_pos (e.mp a)]
  · rw [if_neg a, if_neg (fun q => a (e.mpr q))]
theorem bTrue {P : Prop} [Decidable P] (e : P) : (1 : Int) = if P then 1 else 0 := (if_pos e).symm
def f_ahd (n p : Int) : Int := if p = 0 then n - 1 else p - 1
def f_top (h : HT) (r p : Int) : Int := if h 96 (9 * r + p).toNat = 1 ∧ ¬ h 96 (9 * r + f_ahd (h 81 1) p).toNat = 2 then h 95 (9 * r + f_aft (h 81 1) p).toNat else h 95 (9 * r + p).toNat
theorem f_ahd_r {n p : Int} (hp : 0 ≤ p ∧ p < n) : 0 ≤ f_ahd n p ∧ f_ahd n p < n := by unfold f_ahd; split <;> omega
theorem f_aft_r {n p : Int} (hp : 0 ≤ p ∧ p < n) : 0 ≤ f_aft n p ∧ f_aft n p < n := by unfold f_aft; split <;> omega
theorem f_top_r {h : HT} (hc : ∀ k : Nat, k < 900 → 0 ≤ h 95 k ∧ h 95 k ≤ 8) {r p : Int} (hn : h 81 1 ≤ 9) (hr : 0 ≤ r ∧ r < 100) (hp : 0 ≤ p ∧ p < h 81 1) : 0 ≤ f_top h r p ∧ f_top h r p ≤ 8 := by
  have q := f_aft_r hp
  unfold f_top
  split
  · exact hc _ (by omega)
  · exact hc _ (by omega)
theorem m_topRibbon (d : Nat) (τ : TT) (h : HT) (hT : TK τ) (r p : Int) (hn : 0 ≤ h 81 1 ∧ h 81 1 ≤ 9) (hr : 0 ≤ r ∧ r < 100) (hp : 0 ≤ p ∧ p < h 81 1) (hm : ∀ k : Nat, k < 900 → 0 ≤ h 96 k ∧ h 96 k ≤ 2) : S_ mX12_topRibbon (d + 1) 0 0 [.inr (some 81), .inl r, .inl p] τ h (Zi τ fun v h' => v = f_top h r p ∧ h' = h) := by
  refine S_go (k := 0) (ls := [some (.inr (some 81)), some (.inl r), some (.inl p)]) (by decide) rfl (Nat.le_of_ble_eq_true rfl) rfl ?_
  refine G_aload_n (i := 0) dX12_topRibbon_0 rfl rfl ?_
  refine G_getR fX12_69 rfl dX12_topRibbon_1 (o81 hT) (r81_19 hT) ?_
  refine G_bipush dX12_topRibbon_4 (by decide) ?_
  refine G_iload_n (i := 1) dX12_topRibbon_6 rfl rfl ?_
  refine G_imul dX12_topRibbon_7 ?_
  refine G_iload_n (i := 2) dX12_topRibbon_8 rfl rfl ?_
  refine G_iadd dX12_topRibbon_9 ?_
  refine G_iald (v := h 96 (((9 * r) + p).toNat)) dX12_topRibbon_10 (o96 hT) (by omega) rfl ?_
  have e_ := hm ((9 * r) + p).toNat (by omega)
  refine G_iconst dX12_topRibbon_11 ?_
  refine G_icmp_ne (tgt := 52) dX12_topRibbon_12 (by decide) (by omega) (by decide) (fun c_1 => ?_) (fun c_1 => ?_)
  · refine G_aload_n (i := 0) dX12_topRibbon_52 rfl rfl ?_
    refine G_getR fX12_66 rfl dX12_topRibbon_53 (o81 hT) (r81_18 hT) ?_
    refine G_bipush dX12_topRibbon_56 (by decide) ?_
    refine G_iload_n (i := 1) dX12_topRibbon_58 rfl rfl ?_
    refine G_imul dX12_topRibbon_59 ?_
    refine G_iload_n (i := 2) dX12_topRibbon_60 rfl rfl ?_
    refine G_iadd dX12_topRibbon_61 ?_
    refine G_iald (v := h 95 (((9 * r) + p).toNat)) dX12_topRibbon_62 (o95 hT) (by omega) rfl ?_
    refine G_iretZ rfl dX12_topRibbon_63 ?_
    exact ⟨by unfold f_top; first | rw [if_pos (by omega)] | rw [if_neg (by omega)], rfl⟩
  · refine G_aload_n (i := 0) dX12_topRibbon_15 rfl rfl ?_
    refine G_getR fX12_69 rfl dX12_topRibbon_16 (o81 hT) (r81_19 hT) ?_
    refine G_bipush dX12_topRibbon_19 (by decide) ?_
    refine G_iload_n (i := 1) dX12_topRibbon_21 rfl rfl ?_
    refine G_imul dX12_topRibbon_22 ?_
    refine G_aload_n (i := 0) dX12_topRibbon_23 rfl rfl ?_
    refine G_iload_n (i := 2) dX12_topRibbon_24 rfl rfl ?_
    refine G_cVq (as := [.inl p]) qX12_219 (m_ahead d τ h hT p (by first | omega | grind [hs_, hf_])) rfl rfl (Nat.le_of_ble_eq_true rfl) (o81 hT) dX12_topRibbon_25 ?_
    have b_ := f_ahd_r hp
    refine G_iadd dX12_topRibbon_28 ?_
    refine G_iald (v := h 96 (((9 * r) + (f_ahd (h 81 1) p)).toNat)) dX12_topRibbon_29 (o96 hT) (by omega) rfl ?_
    have e_ := hm ((9 * r) + (f_ahd (h 81 1) p)).toNat (by omega)
    refine G_iconst dX12_topRibbon_30 ?_
    refine G_icmp_eq (tgt := 52) dX12_topRibbon_31 (by decide) (by omega) (by decide) (fun c_2 => ?_) (fun c_2 => ?_)
    · refine G_aload_n (i := 0) dX12_topRibbon_52 rfl rfl ?_
      refine G_getR fX12_66 rfl dX12_topRibbon_53 (o81 hT) (r81_18 hT) ?_
      refine G_bipush dX12_topRibbon_56 (by decide) ?_
      refine G_iload_n (i := 1) dX12_topRibbon_58 rfl rfl ?_
      refine G_imul dX12_topRibbon_59 ?_
      refine G_iload_n (i := 2) dX12_topRibbon_60 rfl rfl ?_
      refine G_iadd dX12_topRibbon_61 ?_
      refine G_iald (v := h 95 (((9 * r) + p).toNat)) dX12_topRibbon_62 (o95 hT) (by omega) rfl ?_
      refine G_iretZ rfl dX12_topRibbon_63 ?_
      exact ⟨by unfold f_top; first | rw [if_pos (by omega)] | rw [if_neg (by omega)], rfl⟩
    · refine G_aload_n (i := 0) dX12_topRibbon_34 rfl rfl ?_
      refine G_getR fX12_66 rfl dX12_topRibbon_35 (o81 hT) (r81_18 hT) ?_
      refine G_bipush dX12_topRibbon_38 (by decide) ?_
      refine G_iload_n (i := 1) dX12_topRibbon_40 rfl rfl ?_
      refine G_imul dX12_topRibbon_41 ?_
      refine G_aload_n (i := 0) dX12_topRibbon_42 rfl rfl ?_
      refine G_iload_n (i := 2) dX12_topRibbon_43 rfl rfl ?_
      refine G_cVq (as := [.inl p]) qX12_207 (m_after d τ h hT p (by first | omega | grind [hs_, hf_]) (by first | omega | grind [hs_, hf_])) rfl rfl (Nat.le_of_ble_eq_true rfl) (o81 hT) dX12_topRibbon_44 ?_
      have b_ := f_aft_r hp
      refine G_iadd dX12_topRibbon_47 ?_
      refine G_iald (v := h 95 (((9 * r) + (f_aft (h 81 1) p)).toNat)) dX12_topRibbon_48 (o95 hT) (by omega) rfl ?_
      refine G_goto (tgt := 63) dX12_topRibbon_49 (by decide) ?_
      refine G_iretZ rfl dX12_topRibbon_63 ?_
      exact ⟨by unfold f_top; first | rw [if_pos (by omega)] | rw [if_neg (by omega)], rfl⟩

def f_cloth (h : HT) (r p w : Int) : Int := if ¬ ((0 ≤ r ∧ r ≤ h 81 15 - 1) ∧ (0 ≤ p ∧ p ≤ h 81 1 - 1) ∧ (0 ≤ w ∧ w ≤ 2)) then -1 else if w = 0 then h 95 (9 * r + p).toNat else if w = 1 then h 96 (9 * r + p).toNat else h 90 (f_top h r p).toNat
theorem m_cloth (d : Nat) (τ : TT) (h : HT) (hT : TK τ) (r p w : Int) (r_r : -2147483648 ≤ r ∧ r ≤ 2147483647) (r_p : -2147483648 ≤ p ∧ p ≤ 2147483647) (r_w : -2147483648 ≤ w ∧ w ≤ 2147483647) (hn : 0 ≤ h 81 1 ∧ h 81 1 ≤ 9) (hro : 0 ≤ h 81 15 ∧ h 81 15 ≤ 100) (hc : ∀ k : Nat, k < 900 → 0 ≤ h 95 k ∧ h 95 k ≤ 8) (hm : ∀ k : Nat, k < 900 → 0 ≤ h 96 k ∧ h 96 k ≤ 2) : S_ mX12_cloth (d + 2) 0 0 [.inr (some 81), .inl r, .inl p, .inl w] τ h (Zi τ fun v h' => v = f_cloth h r p w ∧ h' = h) := by
  refine S_go (k := 0) (ls := [some (.inr (some 81)), some (.inl r), some (.inl p), some (.inl w)]) (by decide) rfl (Nat.le_of_ble_eq_true rfl) rfl ?_
  refine G_aload_n (i := 0) dX12_cloth_0 rfl rfl ?_
  refine G_iload_n (i := 1) dX12_cloth_1 rfl rfl ?_
  refine G_iconst dX12_cloth_2 ?_
  refine G_aload_n (i := 0) dX12_cloth_3 rfl rfl ?_
  refine G_getI (v := h 81 15) fX12_57 rfl dX12_cloth_4 (o81 hT) rfl ?_
  refine G_iconst dX12_cloth_7 ?_
  refine G_isub dX12_cloth_8 ?_
  refine G_cVq (as := [.inl r, .inl 0, .inl ((h 81 15) - 1)]) qX12_195 (m_in (d + 1) τ _ 81 r 0 ((h 81 15) - 1) (by omega) (by decide) (by omega)) rfl rfl (Nat.le_of_ble_eq_true rfl) (o81 hT) dX12_cloth_9 ?_
  refine G_ifb_eq (tgt := 33) dX12_cloth_12 (by decide) (fun c_1 => ?_) (fun c_1 => ?_)
  · refine G_iconst dX12_cloth_33 ?_
    refine G_iretZ rfl dX12_cloth_34 ?_
    exact ⟨by unfold f_cloth; (repeat (first | rw [if_pos (by omega)] | rw [if_neg (by omega)])), rfl⟩
  · refine G_aload_n (i := 0) dX12_cloth_15 rfl rfl ?_
    refine G_iload_n (i := 2) dX12_cloth_16 rfl rfl ?_
    refine G_cVq (as := [.inl p]) qX12_199 (m_isPlace d τ h hT p (by omega) (by first | omega | grind [hs_, hf_])) rfl rfl (Nat.le_of_ble_eq_true rfl) (o81 hT) dX12_cloth_17 ?_
    refine G_ifb_eq (tgt := 33) dX12_cloth_20 (by decide) (fun c_2 => ?_) (fun c_2 => ?_)
    · refine G_iconst dX12_cloth_33 ?_
      refine G_iretZ rfl dX12_cloth_34 ?_
      exact ⟨by unfold f_cloth; (repeat (first | rw [if_pos (by omega)] | rw [if_neg (by omega)])), rfl⟩
    · refine G_aload_n (i := 0) dX12_cloth_23 rfl rfl ?_
      refine G_iload_n (i := 3) dX12_cloth_24 rfl rfl ?_
      refine G_iconst dX12_cloth_25 ?_
      refine G_iconst dX12_cloth_26 ?_
      refine G_cVq (as := [.inl w, .inl 0, .inl 2]) qX12_195 (m_in (d + 1) τ _ 81 w 0 2 (by omega) (by decide) (by decide)) rfl rfl (Nat.le_of_ble_eq_true rfl) (o81 hT) dX12_cloth_27 ?_
      refine G_ifb_ne (tgt := 35) dX12_cloth_30 (by decide) (fun c_3 => ?_) (fun c_3 => ?_)
      · refine G_iload_n (i := 3) dX12_cloth_35 rfl rfl ?_
        refine G_if_ne (tgt := 53) dX12_cloth_36 (by decide) (by omega) (fun c_4 => ?_) (fun c_4 => ?_)
        · refine G_iload_n (i := 3) dX12_cloth_53 rfl rfl ?_
          refine G_iconst dX12_cloth_54 ?_
          refine G_icmp_ne (tgt := 72) dX12_cloth_55 (by decide) (by omega) (by decide) (fun c_5 => ?_) (fun c_5 => ?_)
          · refine G_aload_n (i := 0) dX12_cloth_72 rfl rfl ?_
            refine G_getR fX12_41 rfl dX12_cloth_73 (o81 hT) (r81_10 hT) ?_
            refine G_aload_n (i := 0) dX12_cloth_76 rfl rfl ?_
            refine G_iload_n (i := 1) dX12_cloth_77 rfl rfl ?_
            refine G_iload_n (i := 2) dX12_cloth_78 rfl rfl ?_
            refine G_cVq (as := [.inl r, .inl p]) qX12_222 (m_topRibbon d τ h hT r p (by first | omega | grind [hs_, hf_]) (by first | omega | grind [hs_, hf_]) (by first | omega | grind [hs_, hf_]) hm) rfl rfl (Nat.le_of_ble_eq_true rfl) (o81 hT) dX12_cloth_79 ?_
            have b_ := f_top_r hc (r := r) (p := p) hn.2 (by omega) (by omega)
            refine G_iald (v := h 90 ((f_top h r p).toNat)) dX12_cloth_82 (o90 hT) (by omega) rfl ?_
            refine G_iretZ rfl dX12_cloth_83 ?_
            exact ⟨by unfold f_cloth; (repeat (first | rw [if_pos (by omega)] | rw [if_neg (by omega)])), rfl⟩
          · refine G_aload_n (i := 0) dX12_cloth_58 rfl rfl ?_
            refine G_getR fX12_69 rfl dX12_cloth_59 (o81 hT) (r81_19 hT) ?_
            refine G_bipush dX12_cloth_62 (by decide) ?_
            refine G_iload_n (i := 1) dX12_cloth_64 rfl rfl ?_
            refine G_imul dX12_cloth_65 ?_
            refine G_iload_n (i := 2) dX12_cloth_66 rfl rfl ?_
            refine G_iadd dX12_cloth_67 ?_
            refine G_iald (v := h 96 (((9 * r) + p).toNat)) dX12_cloth_68 (o96 hT) (by omega) rfl ?_
            refine G_goto (tgt := 83) dX12_cloth_69 (by decide) ?_
            refine G_iretZ rfl dX12_cloth_83 ?_
            exact ⟨by unfold f_cloth; (repeat (first | rw [if_pos (by omega)] | rw [if_neg (by omega)])), rfl⟩
        · refine G_aload_n (i := 0) dX12_cloth_39 rfl rfl ?_
          refine G_getR fX12_66 rfl dX12_cloth_40 (o81 hT) (r81_18 hT) ?_
          refine G_bipush dX12_cloth_43 (by decide) ?_
          refine G_iload_n (i := 1) dX12_cloth_45 rfl rfl ?_
          refine G_imul dX12_cloth_46 ?_
          refine G_iload_n (i := 2) dX12_cloth_47 rfl rfl ?_
          refine G_iadd dX12_cloth_48 ?_
          refine G_iald (v := h 95 (((9 * r) + p).toNat)) dX12_cloth_49 (o95 hT) (by omega) rfl ?_
          refine G_goto (tgt := 83) dX12_cloth_50 (by decide) ?_
          refine G_iretZ rfl dX12_cloth_83 ?_
          exact ⟨by unfold f_cloth; (repeat (first | rw [if_pos (by omega)] | rw [if_neg (by omega)])), rfl⟩
      · refine G_iconst dX12_cloth_33 ?_
        refine G_iretZ rfl dX12_cloth_34 ?_
        exact ⟨by unfold f_cloth; (repeat (first | rw [if_pos (by omega)] | rw [if_neg (by omega)])), rfl⟩

abbrev f_lk (h : HT) (r s : Int) (k : Nat) : Prop := ∀ q : Nat, q < k → h 90 (f_top h r q).toNat = h 90 (f_top h s q).toNat
theorem f_lk_s {h : HT} {r s : Int} {k : Nat} : (f_lk h r s k ∧ h 90 (f_top h r k).toNat = h 90 (f_top h s k).toNat) ↔ f_lk h r s (k + 1) := by
  constructor
  · rintro ⟨a, b⟩ q hq
    rcases Nat.lt_succ_iff_lt_or_eq.mp hq with z | z
    · exact a q z
    · subst z; exact b
  · intro a
    exact ⟨fun q hq => a q (by omega), a k (by omega)⟩
theorem f_lk_0 {h : HT} {r s : Int} : f_lk h r s 0 := fun q hq => absurd hq (Nat.not_lt_zero q)
theorem m_areLike_L (d : Nat) (τ : TT) (h : HT) (hT : TK τ) (r s : Int) (hn : 0 ≤ h 81 1 ∧ h 81 1 ≤ 9) (hr : 0 ≤ r ∧ r < 100) (hs : 0 ≤ s ∧ s < 100) (hc : ∀ k : Nat, k < 900 → 0 ≤ h 95 k ∧ h 95 k ≤ 8) (hm : ∀ k : Nat, k < 900 → 0 ≤ h 96 k ∧ h 96 k ≤ 2) (hcc : ∀ k : Nat, k < 9 → 0 ≤ h 90 k ∧ h 90 k ≤ 7) : ∀ (n_ : Nat) (i : Nat), (h 81 1).toNat - i < n_ → (i : Int) ≤ h 81 1 → G_ mX12_areLike (d + 2) 0 0 5 [some (.inr (some 81)), some (.inl r), some (.inl s), some (.inl (if f_lk h r s i then 1 else 0)), some (.inl (i : Int))] [] τ h (Zi τ fun v h' => v = (if f_lk h r s (h 81 1).toNat then 1 else 0) ∧ h' = h) := by
  intro n_
  induction n_ with
  | zero => intro i hm_; exact absurd hm_ (Nat.not_lt_zero _)
  | succ n_ ih =>
    intro i hm_ hi
    refine G_iload dX12_areLike_5 rfl ?_
    refine G_aload_n (i := 0) dX12_areLike_7 rfl rfl ?_
    refine G_getI (v := h 81 1) fX12_13 rfl dX12_areLike_8 (o81 hT) rfl ?_
    refine G_icmp_ge (tgt := 57) dX12_areLike_11 (by decide) (by omega) (by omega) (fun c_1 => ?_) (fun c_1 => ?_)
    · refine G_iload_n (i := 3) dX12_areLike_57 rfl rfl ?_
      refine G_zretZ rfl b01 dX12_areLike_58 ?_
      obtain rfl : i = (h 81 1).toNat := by omega
      exact ⟨rfl, rfl⟩
    · refine G_iload_n (i := 3) dX12_areLike_14 rfl rfl ?_
      suffices K_4 : ∀ x_3 : Int, x_3 = (if (f_lk h r s i) then (if (h 90 ((f_top h r (i : Int)).toNat)) = (h 90 ((f_top h s (i : Int)).toNat)) then 1 else 0) else 0) → G_ mX12_areLike (d + 2) 0 0 50 [some (.inr (some 81)), some (.inl r), some (.inl s), some (.inl (if f_lk h r s i then 1 else 0)), some (.inl (i : Int))] [.inl x_3] τ h (Zi τ fun v h' => v = (if f_lk h r s (h 81 1).toNat then 1 else 0) ∧ h' = h) by
        refine G_ifb_eq (tgt := 49) dX12_areLike_15 (by decide) (fun c_2 => ?_) (fun c_2 => ?_)
        · refine G_iconst dX12_areLike_49 ?_
          exact K_4 _ (if_neg c_2).symm
        · refine G_aload_n (i := 0) dX12_areLike_18 rfl rfl ?_
          refine G_getR fX12_41 rfl dX12_areLike_19 (o81 hT) (r81_10 hT) ?_
          refine G_aload_n (i := 0) dX12_areLike_22 rfl rfl ?_
          refine G_iload_n (i := 1) dX12_areLike_23 rfl rfl ?_
          refine G_iload dX12_areLike_24 rfl ?_
          refine G_cVq (as := [.inl r, .inl (i : Int)]) qX12_222 (m_topRibbon d τ h hT r (i : Int) (by first | omega | grind [hs_, hf_]) (by first | omega | grind [hs_, hf_]) (by first | omega | grind [hs_, hf_]) hm) rfl rfl (Nat.le_of_ble_eq_true rfl) (o81 hT) dX12_areLike_26 ?_
          have b_ := f_top_r hc (r := r) (p := (i : Int)) hn.2 (by omega) (by omega)
          refine G_iald (v := h 90 ((f_top h r (i : Int)).toNat)) dX12_areLike_29 (o90 hT) (by omega) rfl ?_
          have e_ := hcc (f_top h r (i : Int)).toNat (by omega)
          refine G_aload_n (i := 0) dX12_areLike_30 rfl rfl ?_
          refine G_getR fX12_41 rfl dX12_areLike_31 (o81 hT) (r81_10 hT) ?_
          refine G_aload_n (i := 0) dX12_areLike_34 rfl rfl ?_
          refine G_iload_n (i := 2) dX12_areLike_35 rfl rfl ?_
          refine G_iload dX12_areLike_36 rfl ?_
          refine G_cVq (as := [.inl s, .inl (i : Int)]) qX12_222 (m_topRibbon d τ h hT s (i : Int) (by first | omega | grind [hs_, hf_]) (by first | omega | grind [hs_, hf_]) (by first | omega | grind [hs_, hf_]) hm) rfl rfl (Nat.le_of_ble_eq_true rfl) (o81 hT) dX12_areLike_38 ?_
          have b2_ := f_top_r hc (r := s) (p := (i : Int)) hn.2 (by omega) (by omega)
          refine G_iald (v := h 90 ((f_top h s (i : Int)).toNat)) dX12_areLike_41 (o90 hT) (by omega) rfl ?_
          have e_ := hcc (f_top h s (i : Int)).toNat (by omega)
          refine G_icmp_ne (tgt := 49) dX12_areLike_42 (by decide) (by omega) (by omega) (fun c_5 => ?_) (fun c_5 => ?_)
          · refine G_iconst dX12_areLike_49 ?_
            exact K_4 _ ((if_pos c_2).trans (if_neg c_5)).symm
          · refine G_iconst dX12_areLike_45 ?_
            refine G_goto (tgt := 50) dX12_areLike_46 (by decide) ?_
            exact K_4 _ ((if_pos c_2).trans (if_pos c_5)).symm
      intro x_3 ex_3
      refine G_istore_n (i := 3) (ls' := [some (.inr (some 81)), some (.inl r), some (.inl s), some (.inl x_3), some (.inl (i : Int))]) dX12_areLike_50 rfl (by decide) rfl ?_
      refine G_iinc (ls' := [some (.inr (some 81)), some (.inl r), some (.inl s), some (.inl x_3), some (.inl ((i : Int) + 1))]) dX12_areLike_51 (by decide) rfl rfl ?_
      refine G_goto (tgt := 5) dX12_areLike_54 (by decide) ?_
      rw [show x_3 = (if f_lk h r s (i + 1) then 1 else 0) from by rw [ex_3, bAnd]; exact bCg f_lk_s]
      exact ih (i + 1) (by omega) (by omega)

theorem m_areLike (d : Nat) (τ : TT) (h : HT) (hT : TK τ) (r s : Int) (hn : 0 ≤ h 81 1 ∧ h 81 1 ≤ 9) (hr : 0 ≤ r ∧ r < 100) (hs : 0 ≤ s ∧ s < 100) (hc : ∀ k : Nat, k < 900 → 0 ≤ h 95 k ∧ h 95 k ≤ 8) (hm : ∀ k : Nat, k < 900 → 0 ≤ h 96 k ∧ h 96 k ≤ 2) (hcc : ∀ k : Nat, k < 9 → 0 ≤ h 90 k ∧ h 90 k ≤ 7) : S_ mX12_areLike (d + 2) 0 0 [.inr (some 81), .inl r, .inl s] τ h (Zi τ fun v h' => v = (if f_lk h r s (h 81 1).toNat then 1 else 0) ∧ h' = h) := by
  refine S_go (k := 2) (ls := [some (.inr (some 81)), some (.inl r), some (.inl s), none, none]) (by decide) rfl (Nat.le_of_ble_eq_true rfl) rfl ?_
  refine G_iconst dX12_areLike_0 ?_
  refine G_istore_n (i := 3) (ls' := [some (.inr (some 81)), some (.inl r), some (.inl s), some (.inl 1), none]) dX12_areLike_1 rfl (by decide) rfl ?_
  refine G_iconst dX12_areLike_2 ?_
  refine G_istore (ls' := [some (.inr (some 81)), some (.inl r), some (.inl s), some (.inl 1), some (.inl 0)]) dX12_areLike_3 (by decide) rfl ?_
  have := m_areLike_L d τ h hT r s hn hr hs hc hm hcc _ 0 (Nat.lt_succ_self _) (by omega)
  rw [if_pos f_lk_0] at this
  exact this

theorem LS_nil {b : List (Option AV)} : ∀ (i : Nat) (v : AV), ([] : List (Option AV))[i]? = some (some v) → b[i]? = some (some v) := fun i v h => by simp at h
theorem LS_same {x : Option AV} {a b : List (Option AV)} (h : ∀ (i : Nat) (v : AV), a[i]? = some (some v) → b[i]? = some (some v)) : ∀ (i : Nat) (v : AV), (x :: a)[i]? = some (some v) → (x :: b)[i]? = some (some v)
  | 0, _, q => q
  | i + 1, v, q => h i v q
theorem LS_none {y : Option AV} {a b : List (Option AV)} (h : ∀ (i : Nat) (v : AV), a[i]? = some (some v) → b[i]? = some (some v)) : ∀ (i : Nat) (v : AV), (none :: a)[i]? = some (some v) → (y :: b)[i]? = some (some v)
  | 0, _, q => by simp at q
  | i + 1, v, q => h i v q
abbrev f_bt (h : HT) (b k : Nat) : Prop := ∀ r : Nat, r < k → (b ≤ r → f_lk h r (r - b) (h 81 1).toNat)
theorem f_bt_s {h : HT} {b k : Nat} (hb : b ≤ k) : (f_bt h b k ∧ f_lk h k ((k : Int) - b) (h 81 1).toNat) ↔ f_bt h b (k + 1) := by
  constructor
  · rintro ⟨x, y⟩ q hq hbq
    rcases Nat.lt_succ_iff_lt_or_eq.mp hq with z | z
    · exact x q z hbq
    · subst z; exact y
  · intro x
    exact ⟨fun q hq hbq => x q (by omega) hbq, x k (by omega) hb⟩
def f_isb (h : HT) (v : Int) : Prop := 1 ≤ v ∧ v ≤ h 81 15 ∧ (v < h 81 15 → f_bt h v.toNat (h 81 15).toNat) ∧ ∀ b : Nat, 1 ≤ b → (b : Int) < v → ¬ f_bt h b (h 81 15).toNat
theorem m_beat_L2 (d : Nat) (τ : TT) (h : HT) (hT : TK τ) (b : Nat) (hn : 0 ≤ h 81 1 ∧ h 81 1 ≤ 9) (hr : 1 ≤ h 81 15 ∧ h 81 15 ≤ 100) (hc : ∀ k : Nat, k < 900 → 0 ≤ h 95 k ∧ h 95 k ≤ 8) (hm : ∀ k : Nat, k < 900 → 0 ≤ h 96 k ∧ h 96 k ≤ 2) (hcc : ∀ k : Nat, k < 9 → 0 ≤ h 90 k ∧ h 90 k ≤ 7) (hb : 1 ≤ b ∧ (b : Int) < h 81 15) (hbb : ∀ x : Nat, 1 ≤ x → (x : Int) < (b : Int) → ¬ f_bt h x (h 81 15).toNat) (K : ¬ f_bt h b (h 81 15).toNat → G_ mX12_beat (d + 3) 0 0 12 [some (.inr (some 81)), some (.inl ((b : Int) + 1)), none, none] [] τ h (Zi τ fun v h' => (h 81 15 = 0 → v = -3) ∧ (h 81 15 ≠ 0 → f_isb h v) ∧ h' = h)) : ∀ (n_ : Nat) (i : Nat), (h 81 15).toNat - i < n_ → (i : Int) ≤ h 81 15 → b ≤ i → G_ mX12_beat (d + 3) 0 0 24 [some (.inr (some 81)), some (.inl (b : Int)), some (.inl (if f_bt h b i then 1 else 0)), some (.inl (i : Int))] [] τ h (Zi τ fun v h' => (h 81 15 = 0 → v = -3) ∧ (h 81 15 ≠ 0 → f_isb h v) ∧ h' = h) := by
  intro n_
  induction n_ with
  | zero => intro i hm_; exact absurd hm_ (Nat.not_lt_zero _)
  | succ n_ ih =>
    intro i hm_ hi hbi
    refine G_iload_n (i := 3) dX12_beat_24 rfl rfl ?_
    refine G_aload_n (i := 0) dX12_beat_25 rfl rfl ?_
    refine G_getI (v := h 81 15) fX12_57 rfl dX12_beat_26 (o81 hT) rfl ?_
    refine G_icmp_ge (tgt := 59) dX12_beat_29 (by decide) (by omega) (by omega) (fun c_1 => ?_) (fun c_1 => ?_)
    · refine G_iload_n (i := 2) dX12_beat_59 rfl rfl ?_
      refine G_ifb_eq (tgt := 65) dX12_beat_60 (by decide) (fun c_2 => ?_) (fun c_2 => ?_)
      · refine G_iinc (ls' := [some (.inr (some 81)), some (.inl ((b : Int) + 1)), some (.inl (if f_bt h b i then 1 else 0)), some (.inl (i : Int))]) dX12_beat_65 (by decide) rfl rfl ?_
        refine G_goto (tgt := 12) dX12_beat_68 (by decide) ?_
        refine G_lsub (ls' := [some (.inr (some 81)), some (.inl ((b : Int) + 1)), none, none]) (LS_same (LS_same (LS_none (LS_none LS_nil)))) ?_
        exact K (by rw [show (h 81 15).toNat = i by omega]; exact c_2)
      · refine G_iload_n (i := 1) dX12_beat_63 rfl rfl ?_
        refine G_iretZ rfl dX12_beat_64 ?_
        obtain rfl : i = (h 81 15).toNat := by omega
        refine ⟨fun q => by omega, fun _ => ⟨by omega, by omega, fun _ => ?_, hbb⟩, rfl⟩
        assumption
    · refine G_iload_n (i := 2) dX12_beat_32 rfl rfl ?_
      suffices K_5 : ∀ x_4 : Int, x_4 = (if (f_bt h b i) then (if (f_lk h (i : Int) ((i : Int) - (b : Int)) (h 81 1).toNat) then 1 else 0) else 0) → G_ mX12_beat (d + 3) 0 0 52 [some (.inr (some 81)), some (.inl (b : Int)), some (.inl (if f_bt h b i then 1 else 0)), some (.inl (i : Int))] [.inl x_4] τ h (Zi τ fun v h' => (h 81 15 = 0 → v = -3) ∧ (h 81 15 ≠ 0 → f_isb h v) ∧ h' = h) by
        refine G_ifb_eq (tgt := 51) dX12_beat_33 (by decide) (fun c_3 => ?_) (fun c_3 => ?_)
        · refine G_iconst dX12_beat_51 ?_
          exact K_5 _ (if_neg c_3).symm
        · refine G_aload_n (i := 0) dX12_beat_36 rfl rfl ?_
          refine G_iload_n (i := 3) dX12_beat_37 rfl rfl ?_
          refine G_iload_n (i := 3) dX12_beat_38 rfl rfl ?_
          refine G_iload_n (i := 1) dX12_beat_39 rfl rfl ?_
          refine G_isub dX12_beat_40 ?_
          refine G_cVq (as := [.inl (i : Int), .inl ((i : Int) - (b : Int))]) qX12_226 (m_areLike d τ h hT (i : Int) ((i : Int) - (b : Int)) hn (by first | omega | grind [hs_, hf_]) (by first | omega | grind [hs_, hf_]) hc hm hcc) rfl rfl (Nat.le_of_ble_eq_true rfl) (o81 hT) dX12_beat_41 ?_
          refine G_ifb_eq (tgt := 51) dX12_beat_44 (by decide) (fun c_6 => ?_) (fun c_6 => ?_)
          · refine G_iconst dX12_beat_51 ?_
            exact K_5 _ ((if_pos c_3).trans (if_neg c_6)).symm
          · refine G_iconst dX12_beat_47 ?_
            refine G_goto (tgt := 52) dX12_beat_48 (by decide) ?_
            exact K_5 _ ((if_pos c_3).trans (if_pos c_6)).symm
      intro x_4 ex_4
      refine G_istore_n (i := 2) (ls' := [some (.inr (some 81)), some (.inl (b : Int)), some (.inl x_4), some (.inl (i : Int))]) dX12_beat_52 rfl (by decide) rfl ?_
      refine G_iinc (ls' := [some (.inr (some 81)), some (.inl (b : Int)), some (.inl x_4), some (.inl ((i : Int) + 1))]) dX12_beat_53 (by decide) rfl rfl ?_
      refine G_goto (tgt := 24) dX12_beat_56 (by decide) ?_
      rw [show x_4 = (if f_bt h b (i + 1) then 1 else 0) from by rw [ex_4, bAnd]; exact bCg (f_bt_s hbi)]
      exact ih (i + 1) (by omega) (by omega) (by omega)

theorem m_beat_L1 (d : Nat) (τ : TT) (h : HT) (hT : TK τ) (hn : 0 ≤ h 81 1 ∧ h 81 1 ≤ 9) (hr : 1 ≤ h 81 15 ∧ h 81 15 ≤ 100) (hc : ∀ k : Nat, k < 900 → 0 ≤ h 95 k ∧ h 95 k ≤ 8) (hm : ∀ k : Nat, k < 900 → 0 ≤ h 96 k ∧ h 96 k ≤ 2) (hcc : ∀ k : Nat, k < 9 → 0 ≤ h 90 k ∧ h 90 k ≤ 7) : ∀ (n_ : Nat) (i : Nat), (h 81 15).toNat - i < n_ → (i : Int) ≤ h 81 15 → 1 ≤ i → (∀ b : Nat, 1 ≤ b → (b : Int) < (i : Int) → ¬ f_bt h b (h 81 15).toNat) → G_ mX12_beat (d + 3) 0 0 12 [some (.inr (some 81)), some (.inl (i : Int)), none, none] [] τ h (Zi τ fun v h' => (h 81 15 = 0 → v = -3) ∧ (h 81 15 ≠ 0 → f_isb h v) ∧ h' = h) := by
  intro n_
  induction n_ with
  | zero => intro i hm_; exact absurd hm_ (Nat.not_lt_zero _)
  | succ n_ ih =>
    intro i hm_ hi hi1 hbb
    refine G_iload_n (i := 1) dX12_beat_12 rfl rfl ?_
    refine G_aload_n (i := 0) dX12_beat_13 rfl rfl ?_
    refine G_getI (v := h 81 15) fX12_57 rfl dX12_beat_14 (o81 hT) rfl ?_
    refine G_icmp_ge (tgt := 71) dX12_beat_17 (by decide) (by omega) (by omega) (fun c_1 => ?_) (fun c_1 => ?_)
    · refine G_aload_n (i := 0) dX12_beat_71 rfl rfl ?_
      refine G_getI (v := h 81 15) fX12_57 rfl dX12_beat_72 (o81 hT) rfl ?_
      refine G_iretZ rfl dX12_beat_75 ?_
      refine ⟨fun q => by omega, fun _ => ⟨by omega, by omega, fun q => by omega, fun b b1 b2 => hbb b b1 (by omega)⟩, rfl⟩
    · refine G_iconst dX12_beat_20 ?_
      refine G_istore_n (i := 2) (ls' := [some (.inr (some 81)), some (.inl (i : Int)), some (.inl 1), none]) dX12_beat_21 rfl (by decide) rfl ?_
      refine G_iload_n (i := 1) dX12_beat_22 rfl rfl ?_
      refine G_istore_n (i := 3) (ls' := [some (.inr (some 81)), some (.inl (i : Int)), some (.inl 1), some (.inl (i : Int))]) dX12_beat_23 rfl (by decide) rfl ?_
      have K := fun q : ¬ f_bt h i (h 81 15).toNat => ih (i + 1) (by omega) (by omega) (by omega) (fun x x1 x2 => by rcases (show x < i ∨ x = i by omega) with z | z; exact hbb x x1 (by omega); subst z; exact q)
      have := m_beat_L2 d τ h hT i hn hr hc hm hcc (by omega) hbb K _ i (Nat.lt_succ_self _) (by omega) (by omega)
      rw [if_pos (show f_bt h i i from fun r h1 h2 => by omega)] at this
      exact this

theorem m_beat (d : Nat) (τ : TT) (h : HT) (hT : TK τ) (hn : 0 ≤ h 81 1 ∧ h 81 1 ≤ 9) (hr : 0 ≤ h 81 15 ∧ h 81 15 ≤ 100) (hc : ∀ k : Nat, k < 900 → 0 ≤ h 95 k ∧ h 95 k ≤ 8) (hm : ∀ k : Nat, k < 900 → 0 ≤ h 96 k ∧ h 96 k ≤ 2) (hcc : ∀ k : Nat, k < 9 → 0 ≤ h 90 k ∧ h 90 k ≤ 7) : S_ mX12_beat (d + 3) 0 0 [.inr (some 81)] τ h (Zi τ fun v h' => (h 81 15 = 0 → v = -3) ∧ (h 81 15 ≠ 0 → f_isb h v) ∧ h' = h) := by
  refine S_go (k := 3) (ls := [some (.inr (some 81)), none, none, none]) (by decide) rfl (Nat.le_of_ble_eq_true rfl) rfl ?_
  refine G_aload_n (i := 0) dX12_beat_0 rfl rfl ?_
  refine G_getI (v := h 81 15) fX12_57 rfl dX12_beat_1 (o81 hT) rfl ?_
  refine G_if_ne (tgt := 10) dX12_beat_4 (by decide) (by omega) (fun c_1 => ?_) (fun c_1 => ?_)
  · refine G_iconst dX12_beat_10 ?_
    refine G_istore_n (i := 1) (ls' := [some (.inr (some 81)), some (.inl 1), none, none]) dX12_beat_11 rfl (by decide) rfl ?_
    exact m_beat_L1 d τ h hT hn (by omega) hc hm hcc _ 1 (Nat.lt_succ_self _) (by omega) (by omega) (fun b b1 b2 => by omega)
  · refine G_bipush dX12_beat_7 (by decide) ?_
    refine G_iretZ rfl dX12_beat_9 ?_
    exact ⟨fun _ => rfl, fun q => by omega, rfl⟩

def f_bad (h : HT) (g : Nat → Int) (k : Nat) : Prop := h 81 15 ≤ h 97 k ∨ h 81 1 ≤ h 98 k ∨ g (f_top h (h 97 k) (h 98 k)).toNat ≠ h 99 k
noncomputable def f_wv (h : HT) (g : Nat → Int) : Nat → Int
  | 0 => 0
  | k + 1 => f_wv h g k + @ite Int (f_bad h g k) (Classical.propDecidable _) 1 0
theorem f_wv_r (h : HT) (g : Nat → Int) : ∀ k : Nat, 0 ≤ f_wv h g k ∧ f_wv h g k ≤ k
  | 0 => by simp [f_wv]
  | k + 1 => by
    have := f_wv_r h g k
    unfold f_wv
    split <;> omega
theorem f_wv_1 {h : HT} {g : Nat → Int} {k : Nat} (q : f_bad h g k) : f_wv h g (k + 1) = f_wv h g k + 1 := by
  show f_wv h g k + _ = _
  rw [if_pos q]
theorem f_wv_0 {h : HT} {g : Nat → Int} {k : Nat} (q : ¬ f_bad h g k) : f_wv h g (k + 1) = f_wv h g k + 0 := by
  show f_wv h g k + _ = _
  rw [if_neg q]
theorem m_wrongWith_L (d : Nat) (τ : TT) (h : HT) (hT : TK τ) (a : Nat) (hA : ar_ τ a 13 9) (hcc : ∀ k : Nat, k < 9 → 0 ≤ h a k ∧ h a k ≤ 7) (hn : 0 ≤ h 81 1 ∧ h 81 1 ≤ 9) (hr : 0 ≤ h 81 15 ∧ h 81 15 ≤ 100) (hth : 0 ≤ h 81 20 ∧ h 81 20 ≤ 40) (hc : ∀ k : Nat, k < 900 → 0 ≤ h 95 k ∧ h 95 k ≤ 8) (hm : ∀ k : Nat, k < 900 → 0 ≤ h 96 k ∧ h 96 k ≤ 2) (h7 : ∀ k : Nat, k < 40 → 0 ≤ h 97 k ∧ h 97 k ≤ 99) (h8 : ∀ k : Nat, k < 40 → 0 ≤ h 98 k ∧ h 98 k ≤ 8) (h9 : ∀ k : Nat, k < 40 → 0 ≤ h 99 k ∧ h 99 k ≤ 7) : ∀ (n_ : Nat) (i : Nat), (h 81 20).toNat - i < n_ → (i : Int) ≤ h 81 20 → G_ mX12_wrongWith (d + 2) 0 0 4 [some (.inr (some 81)), some (.inr (some a)), some (.inl (f_wv h (h a) i)), some (.inl (i : Int))] [] τ h (Zi τ fun v h' => v = f_wv h (h a) (h 81 20).toNat ∧ h' = h) := by
  intro n_
  induction n_ with
  | zero => intro i hm_; exact absurd hm_ (Nat.not_lt_zero _)
  | succ n_ ih =>
    intro i hm_ hi
    refine G_iload_n (i := 3) dX12_wrongWith_4 rfl rfl ?_
    refine G_aload_n (i := 0) dX12_wrongWith_5 rfl rfl ?_
    refine G_getI (v := h 81 20) fX12_72 rfl dX12_wrongWith_6 (o81 hT) rfl ?_
    refine G_icmp_ge (tgt := 79) dX12_wrongWith_9 (by decide) (by omega) (by omega) (fun c_1 => ?_) (fun c_1 => ?_)
    · refine G_iload_n (i := 2) dX12_wrongWith_79 rfl rfl ?_
      refine G_iretZ rfl dX12_wrongWith_80 ?_
      obtain rfl : i = (h 81 20).toNat := by omega
      exact ⟨rfl, rfl⟩
    · refine G_iload_n (i := 2) dX12_wrongWith_12 rfl rfl ?_
      refine G_aload_n (i := 0) dX12_wrongWith_13 rfl rfl ?_
      refine G_getR fX12_75 rfl dX12_wrongWith_14 (o81 hT) (r81_21 hT) ?_
      refine G_iload_n (i := 3) dX12_wrongWith_17 rfl rfl ?_
      refine G_iald (v := h 97 i) dX12_wrongWith_18 (o97 hT) (by omega) rfl ?_
      have eh7_ := h7 i (by omega)
      refine G_aload_n (i := 0) dX12_wrongWith_19 rfl rfl ?_
      refine G_getI (v := h 81 15) fX12_57 rfl dX12_wrongWith_20 (o81 hT) rfl ?_
      refine G_icmp_ge (tgt := 66) dX12_wrongWith_23 (by decide) (by omega) (by omega) (fun c_2 => ?_) (fun c_2 => ?_)
      · refine G_iconst dX12_wrongWith_66 ?_
        refine G_goto (tgt := 71) dX12_wrongWith_67 (by decide) ?_
        refine G_iadd dX12_wrongWith_71 ?_
        refine G_istore_n (i := 2) (ls' := [some (.inr (some 81)), some (.inr (some a)), some (.inl ((f_wv h (h a) i) + 1)), some (.inl (i : Int))]) dX12_wrongWith_72 rfl (by decide) rfl ?_
        refine G_iinc (ls' := [some (.inr (some 81)), some (.inr (some a)), some (.inl ((f_wv h (h a) i) + 1)), some (.inl ((i : Int) + 1))]) dX12_wrongWith_73 (by decide) rfl rfl ?_
        refine G_goto (tgt := 4) dX12_wrongWith_76 (by decide) ?_
        rw [← f_wv_1 (by unfold f_bad; omega)]
        exact ih (i + 1) (by omega) (by omega)
      · refine G_aload_n (i := 0) dX12_wrongWith_26 rfl rfl ?_
        refine G_getR fX12_78 rfl dX12_wrongWith_27 (o81 hT) (r81_22 hT) ?_
        refine G_iload_n (i := 3) dX12_wrongWith_30 rfl rfl ?_
        refine G_iald (v := h 98 i) dX12_wrongWith_31 (o98 hT) (by omega) rfl ?_
        have eh8_ := h8 i (by omega)
        refine G_aload_n (i := 0) dX12_wrongWith_32 rfl rfl ?_
        refine G_getI (v := h 81 1) fX12_13 rfl dX12_wrongWith_33 (o81 hT) rfl ?_
        refine G_icmp_ge (tgt := 66) dX12_wrongWith_36 (by decide) (by omega) (by omega) (fun c_3 => ?_) (fun c_3 => ?_)
        · refine G_iconst dX12_wrongWith_66 ?_
          refine G_goto (tgt := 71) dX12_wrongWith_67 (by decide) ?_
          refine G_iadd dX12_wrongWith_71 ?_
          refine G_istore_n (i := 2) (ls' := [some (.inr (some 81)), some (.inr (some a)), some (.inl ((f_wv h (h a) i) + 1)), some (.inl (i : Int))]) dX12_wrongWith_72 rfl (by decide) rfl ?_
          refine G_iinc (ls' := [some (.inr (some 81)), some (.inr (some a)), some (.inl ((f_wv h (h a) i) + 1)), some (.inl ((i : Int) + 1))]) dX12_wrongWith_73 (by decide) rfl rfl ?_
          refine G_goto (tgt := 4) dX12_wrongWith_76 (by decide) ?_
          rw [← f_wv_1 (by unfold f_bad; omega)]
          exact ih (i + 1) (by omega) (by omega)
        · refine G_aload_n (i := 1) dX12_wrongWith_39 rfl rfl ?_
          refine G_aload_n (i := 0) dX12_wrongWith_40 rfl rfl ?_
          refine G_aload_n (i := 0) dX12_wrongWith_41 rfl rfl ?_
          refine G_getR fX12_75 rfl dX12_wrongWith_42 (o81 hT) (r81_21 hT) ?_
          refine G_iload_n (i := 3) dX12_wrongWith_45 rfl rfl ?_
          refine G_iald (v := h 97 i) dX12_wrongWith_46 (o97 hT) (by omega) rfl ?_
          have eh7_ := h7 i (by omega)
          refine G_aload_n (i := 0) dX12_wrongWith_47 rfl rfl ?_
          refine G_getR fX12_78 rfl dX12_wrongWith_48 (o81 hT) (r81_22 hT) ?_
          refine G_iload_n (i := 3) dX12_wrongWith_51 rfl rfl ?_
          refine G_iald (v := h 98 i) dX12_wrongWith_52 (o98 hT) (by omega) rfl ?_
          have eh8_ := h8 i (by omega)
          refine G_cVq (as := [.inl (h 97 i), .inl (h 98 i)]) qX12_222 (m_topRibbon d τ h hT (h 97 i) (h 98 i) (by first | omega | grind [hs_, hf_]) (by first | omega | grind [hs_, hf_]) (by first | omega | grind [hs_, hf_]) hm) rfl rfl (Nat.le_of_ble_eq_true rfl) (o81 hT) dX12_wrongWith_53 ?_
          have b_ := f_top_r hc (r := h 97 i) (p := h 98 i) hn.2 (by omega) (by omega)
          refine G_iald (v := h a ((f_top h (h 97 i) (h 98 i)).toNat)) dX12_wrongWith_56 hA (by omega) rfl ?_
          have ehcc_ := hcc (f_top h (h 97 i) (h 98 i)).toNat (by omega)
          refine G_aload_n (i := 0) dX12_wrongWith_57 rfl rfl ?_
          refine G_getR fX12_81 rfl dX12_wrongWith_58 (o81 hT) (r81_23 hT) ?_
          refine G_iload_n (i := 3) dX12_wrongWith_61 rfl rfl ?_
          refine G_iald (v := h 99 i) dX12_wrongWith_62 (o99 hT) (by omega) rfl ?_
          have eh9_ := h9 i (by omega)
          refine G_icmp_eq (tgt := 70) dX12_wrongWith_63 (by decide) (by omega) (by omega) (fun c_4 => ?_) (fun c_4 => ?_)
          · refine G_iconst dX12_wrongWith_70 ?_
            refine G_iadd dX12_wrongWith_71 ?_
            refine G_istore_n (i := 2) (ls' := [some (.inr (some 81)), some (.inr (some a)), some (.inl ((f_wv h (h a) i) + 0)), some (.inl (i : Int))]) dX12_wrongWith_72 rfl (by decide) rfl ?_
            refine G_iinc (ls' := [some (.inr (some 81)), some (.inr (some a)), some (.inl ((f_wv h (h a) i) + 0)), some (.inl ((i : Int) + 1))]) dX12_wrongWith_73 (by decide) rfl rfl ?_
            refine G_goto (tgt := 4) dX12_wrongWith_76 (by decide) ?_
            rw [← f_wv_0 (by unfold f_bad; omega)]
            exact ih (i + 1) (by omega) (by omega)
          · refine G_iconst dX12_wrongWith_66 ?_
            refine G_goto (tgt := 71) dX12_wrongWith_67 (by decide) ?_
            refine G_iadd dX12_wrongWith_71 ?_
            refine G_istore_n (i := 2) (ls' := [some (.inr (some 81)), some (.inr (some a)), some (.inl ((f_wv h (h a) i) + 1)), some (.inl (i : Int))]) dX12_wrongWith_72 rfl (by decide) rfl ?_
            refine G_iinc (ls' := [some (.inr (some 81)), some (.inr (some a)), some (.inl ((f_wv h (h a) i) + 1)), some (.inl ((i : Int) + 1))]) dX12_wrongWith_73 (by decide) rfl rfl ?_
            refine G_goto (tgt := 4) dX12_wrongWith_76 (by decide) ?_
            rw [← f_wv_1 (by unfold f_bad; omega)]
            exact ih (i + 1) (by omega) (by omega)

theorem m_wrongWith (d : Nat) (τ : TT) (h : HT) (hT : TK τ) (a : Nat) (hA : ar_ τ a 13 9) (hcc : ∀ k : Nat, k < 9 → 0 ≤ h a k ∧ h a k ≤ 7) (hn : 0 ≤ h 81 1 ∧ h 81 1 ≤ 9) (hr : 0 ≤ h 81 15 ∧ h 81 15 ≤ 100) (hth : 0 ≤ h 81 20 ∧ h 81 20 ≤ 40) (hc : ∀ k : Nat, k < 900 → 0 ≤ h 95 k ∧ h 95 k ≤ 8) (hm : ∀ k : Nat, k < 900 → 0 ≤ h 96 k ∧ h 96 k ≤ 2) (h7 : ∀ k : Nat, k < 40 → 0 ≤ h 97 k ∧ h 97 k ≤ 99) (h8 : ∀ k : Nat, k < 40 → 0 ≤ h 98 k ∧ h 98 k ≤ 8) (h9 : ∀ k : Nat, k < 40 → 0 ≤ h 99 k ∧ h 99 k ≤ 7) : S_ mX12_wrongWith (d + 2) 0 0 [.inr (some 81), .inr (some a)] τ h (Zi τ fun v h' => v = f_wv h (h a) (h 81 20).toNat ∧ h' = h) := by
  refine S_go (k := 2) (ls := [some (.inr (some 81)), some (.inr (some a)), none, none]) (by decide) rfl (Nat.le_of_ble_eq_true rfl) rfl ?_
  refine G_iconst dX12_wrongWith_0 ?_
  refine G_istore_n (i := 2) (ls' := [some (.inr (some 81)), some (.inr (some a)), some (.inl 0), none]) dX12_wrongWith_1 rfl (by decide) rfl ?_
  refine G_iconst dX12_wrongWith_2 ?_
  refine G_istore_n (i := 3) (ls' := [some (.inr (some 81)), some (.inr (some a)), some (.inl 0), some (.inl 0)]) dX12_wrongWith_3 rfl (by decide) rfl ?_
  exact m_wrongWith_L d τ h hT a hA hcc hn hr hth hc hm h7 h8 h9 _ 0 (Nat.lt_succ_self _) (by omega)

theorem m_wrong (d : Nat) (τ : TT) (h : HT) (hT : TK τ) (hcc : ∀ k : Nat, k < 9 → 0 ≤ h 90 k ∧ h 90 k ≤ 7) (hn : 0 ≤ h 81 1 ∧ h 81 1 ≤ 9) (hr : 0 ≤ h 81 15 ∧ h 81 15 ≤ 100) (hth : 0 ≤ h 81 20 ∧ h 81 20 ≤ 40) (hc : ∀ k : Nat, k < 900 → 0 ≤ h 95 k ∧ h 95 k ≤ 8) (hm : ∀ k : Nat, k < 900 → 0 ≤ h 96 k ∧ h 96 k ≤ 2) (h7 : ∀ k : Nat, k < 40 → 0 ≤ h 97 k ∧ h 97 k ≤ 99) (h8 : ∀ k : Nat, k < 40 → 0 ≤ h 98 k ∧ h 98 k ≤ 8) (h9 : ∀ k : Nat, k < 40 → 0 ≤ h 99 k ∧ h 99 k ≤ 7) : S_ mX12_wrong (d + 3) 0 0 [.inr (some 81)] τ h (Zi τ fun v h' => v = f_wv h (h 90) (h 81 20).toNat ∧ h' = h) := by
  refine S_go (k := 0) (ls := [some (.inr (some 81))]) (by decide) rfl (Nat.le_of_ble_eq_true rfl) rfl ?_
  refine G_aload_n (i := 0) dX12_wrong_0 rfl rfl ?_
  refine G_aload_n (i := 0) dX12_wrong_1 rfl rfl ?_
  refine G_getR fX12_41 rfl dX12_wrong_2 (o81 hT) (r81_10 hT) ?_
  refine G_cVq (as := [.inr (some 90)]) qX12_230 (m_wrongWith d τ h hT 90 (o90 hT) hcc hn hr hth hc hm h7 h8 h9) rfl rfl (Nat.le_of_ble_eq_true rfl) (o81 hT) dX12_wrong_5 ?_
  refine G_iretZ rfl dX12_wrong_8 ?_
  exact ⟨rfl, rfl⟩

