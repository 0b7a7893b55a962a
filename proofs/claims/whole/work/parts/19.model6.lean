/-! the reference: tapes, counts, acts -/
def f_count (h : HT) (w : Int) : Int := if w = 0 then h 81 0 else if w = 1 then h 81 1 else if w = 2 then h 81 14 else if w = 3 then h 81 26 else if w = 4 then h 81 27 else if w = 5 then h 81 20 else if w = 6 then (if h 81 11 ≠ 0 then 1 else 0) else if w = 7 then h 81 55 else -2
theorem m_count (d : Nat) (τ : TT) (h : HT) (hT : TK τ) (w : Int) (r_w : -2147483648 ≤ w ∧ w ≤ 2147483647) (hd : 0 ≤ h 81 11 ∧ h 81 11 ≤ 1) : S_ mX12_count d 0 0 [.inr (some 81), .inl w] τ h (Zi τ fun v h' => v = f_count h w ∧ h' = h) := by
  refine S_go (k := 0) (ls := [some (.inr (some 81)), some (.inl w)]) (by decide) rfl (Nat.le_of_ble_eq_true rfl) rfl ?_
  refine G_iload_n (i := 1) dX12_count_0 rfl rfl ?_
  by_cases hsw : 0 ≤ w ∧ w ≤ 7
  · have hsx : w = 0 ∨ w = 1 ∨ w = 2 ∨ w = 3 ∨ w = 4 ∨ w = 5 ∨ w = 6 ∨ w = 7 := by omega
    rcases hsx with hsx | hsx | hsx | hsx | hsx | hsx | hsx | hsx
    · rw [hsx]
      refine G_tswIn (off := 47) (tgt := 48) dX12_count_1 (by decide) (by decide) rfl (by decide) ?_
      refine G_aload_n (i := 0) dX12_count_48 rfl rfl ?_
      refine G_getI (v := h 81 0) fX12_7 rfl dX12_count_49 (o81 hT) rfl ?_
      refine G_iretZ rfl dX12_count_52 ?_
      exact ⟨by unfold f_count; (repeat (first | rw [if_pos (by omega)] | rw [if_neg (by omega)])), rfl⟩
    · rw [hsx]
      refine G_tswIn (off := 52) (tgt := 53) dX12_count_1 (by decide) (by decide) rfl (by decide) ?_
      refine G_aload_n (i := 0) dX12_count_53 rfl rfl ?_
      refine G_getI (v := h 81 1) fX12_13 rfl dX12_count_54 (o81 hT) rfl ?_
      refine G_iretZ rfl dX12_count_57 ?_
      exact ⟨by unfold f_count; (repeat (first | rw [if_pos (by omega)] | rw [if_neg (by omega)])), rfl⟩
    · rw [hsx]
      refine G_tswIn (off := 57) (tgt := 58) dX12_count_1 (by decide) (by decide) rfl (by decide) ?_
      refine G_aload_n (i := 0) dX12_count_58 rfl rfl ?_
      refine G_getI (v := h 81 14) fX12_54 rfl dX12_count_59 (o81 hT) rfl ?_
      refine G_iretZ rfl dX12_count_62 ?_
      exact ⟨by unfold f_count; (repeat (first | rw [if_pos (by omega)] | rw [if_neg (by omega)])), rfl⟩
    · rw [hsx]
      refine G_tswIn (off := 62) (tgt := 63) dX12_count_1 (by decide) (by decide) rfl (by decide) ?_
      refine G_aload_n (i := 0) dX12_count_63 rfl rfl ?_
      refine G_getI (v := h 81 26) fX12_90 rfl dX12_count_64 (o81 hT) rfl ?_
      refine G_iretZ rfl dX12_count_67 ?_
      exact ⟨by unfold f_count; (repeat (first | rw [if_pos (by omega)] | rw [if_neg (by omega)])), rfl⟩
    · rw [hsx]
      refine G_tswIn (off := 67) (tgt := 68) dX12_count_1 (by decide) (by decide) rfl (by decide) ?_
      refine G_aload_n (i := 0) dX12_count_68 rfl rfl ?_
      refine G_getI (v := h 81 27) fX12_93 rfl dX12_count_69 (o81 hT) rfl ?_
      refine G_iretZ rfl dX12_count_72 ?_
      exact ⟨by unfold f_count; (repeat (first | rw [if_pos (by omega)] | rw [if_neg (by omega)])), rfl⟩
    · rw [hsx]
      refine G_tswIn (off := 72) (tgt := 73) dX12_count_1 (by decide) (by decide) rfl (by decide) ?_
      refine G_aload_n (i := 0) dX12_count_73 rfl rfl ?_
      refine G_getI (v := h 81 20) fX12_72 rfl dX12_count_74 (o81 hT) rfl ?_
      refine G_iretZ rfl dX12_count_77 ?_
      exact ⟨by unfold f_count; (repeat (first | rw [if_pos (by omega)] | rw [if_neg (by omega)])), rfl⟩
    · rw [hsx]
      refine G_tswIn (off := 77) (tgt := 78) dX12_count_1 (by decide) (by decide) rfl (by decide) ?_
      refine G_aload_n (i := 0) dX12_count_78 rfl rfl ?_
      refine G_getI (v := h 81 11) fX12_44 rfl dX12_count_79 (o81 hT) rfl ?_
      refine G_if_eq (tgt := 89) dX12_count_82 (by decide) (by omega) (fun c_1 => ?_) (fun c_1 => ?_)
      · refine G_iconst dX12_count_89 ?_
        refine G_iretZ rfl dX12_count_90 ?_
        exact ⟨by unfold f_count; (repeat (first | rw [if_pos (by omega)] | rw [if_neg (by omega)])), rfl⟩
      · refine G_iconst dX12_count_85 ?_
        refine G_goto (tgt := 90) dX12_count_86 (by decide) ?_
        refine G_iretZ rfl dX12_count_90 ?_
        exact ⟨by unfold f_count; (repeat (first | rw [if_pos (by omega)] | rw [if_neg (by omega)])), rfl⟩
    · rw [hsx]
      refine G_tswIn (off := 90) (tgt := 91) dX12_count_1 (by decide) (by decide) rfl (by decide) ?_
      refine G_aload_n (i := 0) dX12_count_91 rfl rfl ?_
      refine G_getI (v := h 81 55) fX12_177 rfl dX12_count_92 (o81 hT) rfl ?_
      refine G_iretZ rfl dX12_count_95 ?_
      exact ⟨by unfold f_count; (repeat (first | rw [if_pos (by omega)] | rw [if_neg (by omega)])), rfl⟩
  · refine G_tswOut (tgt := 96) dX12_count_1 (by omega) (by omega) (by decide) ?_
    refine G_bipush dX12_count_96 (by decide) ?_
    refine G_iretZ rfl dX12_count_98 ?_
    exact ⟨by unfold f_count; (repeat (first | rw [if_pos (by omega)] | rw [if_neg (by omega)])), rfl⟩

def f_tape (h : HT) (t s k : Int) : Int × HT := if ¬ (0 ≤ t ∧ t ≤ 5) then (-1, h) else if ¬ (-1 ≤ s ∧ s ≤ 4) ∨ (0 ≤ s ∧ 60 < k) then (-2, h) else if 0 ≤ s ∧ k < 0 then (-14, h) else
  (1, hf_ (hs_ (hs_ h 122 t.toNat s) 123 t.toNat (if s < 0 then 0 else k)) 124 (60 * t.toNat) (60 * t.toNat + 60) (fun _ => 0))
theorem m_tape_L (d : Nat) (τ : TT) (h : HT) (hT : TK τ) (t s k : Int) (ht : 0 ≤ t ∧ t ≤ 5) : ∀ (n_ : Nat) (i : Nat), 60 - i < n_ → i ≤ 60 → G_ mX12_tape (d + 2) 0 0 69 [some (.inr (some 81)), some (.inl t), some (.inl s), some (.inl k), some (.inl (i : Int))] [] τ (hf_ h 124 (60 * t.toNat) (60 * t.toNat + i) (fun _ => 0)) (Zi τ fun v h' => v = 1 ∧ h' = hf_ h 124 (60 * t.toNat) (60 * t.toNat + 60) (fun _ => 0)) := by
  intro n_
  induction n_ with
  | zero => intro i hm_; exact absurd hm_ (Nat.not_lt_zero _)
  | succ n_ ih =>
    intro i hm_ hi
    refine G_iload dX12_tape_69 rfl ?_
    refine G_bipush dX12_tape_71 (by decide) ?_
    refine G_icmp_ge (tgt := 95) dX12_tape_73 (by decide) (by omega) (by decide) (fun c_1 => ?_) (fun c_1 => ?_)
    · refine G_iconst dX12_tape_95 ?_
      refine G_iretZ rfl dX12_tape_96 ?_
      obtain rfl : i = 60 := by omega
      exact ⟨rfl, rfl⟩
    · refine G_aload_n (i := 0) dX12_tape_76 rfl rfl ?_
      refine G_getR fX12_189 rfl dX12_tape_77 (o81 hT) (r81_59 hT) ?_
      refine G_bipush dX12_tape_80 (by decide) ?_
      refine G_iload_n (i := 1) dX12_tape_82 rfl rfl ?_
      refine G_imul dX12_tape_83 ?_
      refine G_iload dX12_tape_84 rfl ?_
      refine G_iadd dX12_tape_86 ?_
      refine G_iconst dX12_tape_87 ?_
      refine G_iastk (((60 * t) + (i : Int)).toNat) dX12_tape_88 (o124 hT) (by omega) rfl ?_
      refine G_iinc (ls' := [some (.inr (some 81)), some (.inl t), some (.inl s), some (.inl k), some (.inl ((i : Int) + 1))]) dX12_tape_89 (by decide) rfl rfl ?_
      refine G_goto (tgt := 69) dX12_tape_92 (by decide) ?_
      rw [show (60 * t + (i : Int)).toNat = 60 * t.toNat + i by omega, hf_snoc (by omega) rfl]
      exact ih (i + 1) (by omega) (by omega)

theorem m_tape (d : Nat) (τ : TT) (h : HT) (hT : TK τ) (t s k : Int) (r_t : -2147483648 ≤ t ∧ t ≤ 2147483647) (r_s : -2147483648 ≤ s ∧ s ≤ 2147483647) (r_k : -2147483648 ≤ k ∧ k ≤ 2147483647) : S_ mX12_tape (d + 2) 0 0 [.inr (some 81), .inl t, .inl s, .inl k] τ h (Zi τ fun v h' => v = (f_tape h t s k).1 ∧ h' = (f_tape h t s k).2) := by
  refine S_go (k := 1) (ls := [some (.inr (some 81)), some (.inl t), some (.inl s), some (.inl k), none]) (by decide) rfl (Nat.le_of_ble_eq_true rfl) rfl ?_
  refine G_aload_n (i := 0) dX12_tape_0 rfl rfl ?_
  refine G_iload_n (i := 1) dX12_tape_1 rfl rfl ?_
  refine G_cVq (as := [.inl t]) qX12_310 (m_isTape d τ h hT t (by omega)) rfl rfl (Nat.le_of_ble_eq_true rfl) (o81 hT) dX12_tape_2 ?_
  refine G_ifb_ne (tgt := 10) dX12_tape_5 (by decide) (fun c_1 => ?_) (fun c_1 => ?_)
  · refine G_aload_n (i := 0) dX12_tape_10 rfl rfl ?_
    refine G_iload_n (i := 2) dX12_tape_11 rfl rfl ?_
    refine G_iconst dX12_tape_12 ?_
    refine G_iconst dX12_tape_13 ?_
    refine G_cVq (as := [.inl s, .inl (-1), .inl 4]) qX12_195 (m_in (d + 1) τ _ 81 s (-1) 4 (by omega) (by decide) (by decide)) rfl rfl (Nat.le_of_ble_eq_true rfl) (o81 hT) dX12_tape_14 ?_
    refine G_ifb_eq (tgt := 30) dX12_tape_17 (by decide) (fun c_2 => ?_) (fun c_2 => ?_)
    · refine G_bipush dX12_tape_30 (by decide) ?_
      refine G_iretZ rfl dX12_tape_32 ?_
      unfold f_tape; (repeat (first | rw [if_pos (by first | assumption | omega)] | rw [if_neg (by first | assumption | omega)])); first | exact ⟨rfl, rfl⟩ | rfl | (refine ⟨?_, ?_⟩ <;> first | rfl | omega | grind [hs_, hf_]) | grind [hs_, hf_]
    · refine G_iload_n (i := 2) dX12_tape_20 rfl rfl ?_
      refine G_if_lt (tgt := 33) dX12_tape_21 (by decide) (by omega) (fun c_3 => ?_) (fun c_3 => ?_)
      · refine G_iload_n (i := 2) dX12_tape_33 rfl rfl ?_
        refine G_if_lt (tgt := 44) dX12_tape_34 (by decide) (by omega) (fun _ => ?_) (fun q => absurd c_3 q)
        refine G_aload_n (i := 0) dX12_tape_44 rfl rfl ?_
        refine G_getR fX12_183 rfl dX12_tape_45 (o81 hT) (r81_57 hT) ?_
        refine G_iload_n (i := 1) dX12_tape_48 rfl rfl ?_
        refine G_iload_n (i := 2) dX12_tape_49 rfl rfl ?_
        refine G_iastk ((t).toNat) dX12_tape_50 (o122 hT) (by omega) rfl ?_
        refine G_aload_n (i := 0) dX12_tape_51 rfl rfl ?_
        refine G_getR fX12_186 rfl dX12_tape_52 (o81 hT) (r81_58 hT) ?_
        refine G_iload_n (i := 1) dX12_tape_55 rfl rfl ?_
        refine G_iload_n (i := 2) dX12_tape_56 rfl rfl ?_
        suffices K_6 : ∀ x_5 : Int, x_5 = (if 0 ≤ s then k else 0) → G_ mX12_tape (d + 2) 0 0 65 [some (.inr (some 81)), some (.inl t), some (.inl s), some (.inl k), none] [.inl x_5, .inl t, .inr (some 123)] τ (hs_ h 122 ((t).toNat) s) (Zi τ fun v h' => v = (f_tape h t s k).1 ∧ h' = (f_tape h t s k).2) by
          refine G_if_ge (tgt := 64) dX12_tape_57 (by decide) (by omega) (fun c_4 => ?_) (fun c_4 => ?_)
          · refine G_iload_n (i := 3) dX12_tape_64 rfl rfl ?_
            exact K_6 _ (if_pos c_4).symm
          · refine G_iconst dX12_tape_60 ?_
            refine G_goto (tgt := 65) dX12_tape_61 (by decide) ?_
            exact K_6 _ (if_neg c_4).symm
        intro x_5 ex_5
        refine G_iastk ((t).toNat) dX12_tape_65 (o123 hT) (by omega) rfl ?_
        refine G_iconst dX12_tape_66 ?_
        refine G_istore (ls' := [some (.inr (some 81)), some (.inl t), some (.inl s), some (.inl k), some (.inl 0)]) dX12_tape_67 (by decide) rfl ?_
        have := m_tape_L d τ (hs_ (hs_ h 122 ((t).toNat) s) 123 ((t).toNat) x_5) hT t s k (by omega) _ 0 (Nat.lt_succ_self _) (by omega)
        rw [show 60 * t.toNat + 0 = 60 * t.toNat from rfl, hf_nil] at this
        refine G_mono ?_ this
        rintro r τ' h' ⟨q1, v, q2, rfl, rfl⟩
        refine ⟨q1, _, q2, ?_⟩
        subst ex_5
        unfold f_tape; (repeat (first | rw [if_pos (by first | assumption | omega)] | rw [if_neg (by first | assumption | omega)])); first | exact ⟨rfl, rfl⟩ | rfl | (refine ⟨?_, ?_⟩ <;> first | rfl | omega | grind [hs_, hf_]) | grind [hs_, hf_]
      · refine G_iload_n (i := 3) dX12_tape_24 rfl rfl ?_
        refine G_bipush dX12_tape_25 (by decide) ?_
        refine G_icmp_le (tgt := 33) dX12_tape_27 (by decide) (by omega) (by decide) (fun c_7 => ?_) (fun c_7 => ?_)
        · refine G_iload_n (i := 2) dX12_tape_33 rfl rfl ?_
          refine G_if_lt (tgt := 44) dX12_tape_34 (by decide) (by omega) (fun q => absurd q c_3) (fun _ => ?_)
          refine G_iload_n (i := 3) dX12_tape_37 rfl rfl ?_
          refine G_if_ge (tgt := 44) dX12_tape_38 (by decide) (by omega) (fun c_8 => ?_) (fun c_8 => ?_)
          · refine G_aload_n (i := 0) dX12_tape_44 rfl rfl ?_
            refine G_getR fX12_183 rfl dX12_tape_45 (o81 hT) (r81_57 hT) ?_
            refine G_iload_n (i := 1) dX12_tape_48 rfl rfl ?_
            refine G_iload_n (i := 2) dX12_tape_49 rfl rfl ?_
            refine G_iastk ((t).toNat) dX12_tape_50 (o122 hT) (by omega) rfl ?_
            refine G_aload_n (i := 0) dX12_tape_51 rfl rfl ?_
            refine G_getR fX12_186 rfl dX12_tape_52 (o81 hT) (r81_58 hT) ?_
            refine G_iload_n (i := 1) dX12_tape_55 rfl rfl ?_
            refine G_iload_n (i := 2) dX12_tape_56 rfl rfl ?_
            suffices K_11 : ∀ x_10 : Int, x_10 = (if 0 ≤ s then k else 0) → G_ mX12_tape (d + 2) 0 0 65 [some (.inr (some 81)), some (.inl t), some (.inl s), some (.inl k), none] [.inl x_10, .inl t, .inr (some 123)] τ (hs_ h 122 ((t).toNat) s) (Zi τ fun v h' => v = (f_tape h t s k).1 ∧ h' = (f_tape h t s k).2) by
              refine G_if_ge (tgt := 64) dX12_tape_57 (by decide) (by omega) (fun c_9 => ?_) (fun c_9 => ?_)
              · refine G_iload_n (i := 3) dX12_tape_64 rfl rfl ?_
                exact K_11 _ (if_pos c_9).symm
              · refine G_iconst dX12_tape_60 ?_
                refine G_goto (tgt := 65) dX12_tape_61 (by decide) ?_
                exact K_11 _ (if_neg c_9).symm
            intro x_10 ex_10
            refine G_iastk ((t).toNat) dX12_tape_65 (o123 hT) (by omega) rfl ?_
            refine G_iconst dX12_tape_66 ?_
            refine G_istore (ls' := [some (.inr (some 81)), some (.inl t), some (.inl s), some (.inl k), some (.inl 0)]) dX12_tape_67 (by decide) rfl ?_
            have := m_tape_L d τ (hs_ (hs_ h 122 ((t).toNat) s) 123 ((t).toNat) x_10) hT t s k (by omega) _ 0 (Nat.lt_succ_self _) (by omega)
            rw [show 60 * t.toNat + 0 = 60 * t.toNat from rfl, hf_nil] at this
            refine G_mono ?_ this
            rintro r τ' h' ⟨q1, v, q2, rfl, rfl⟩
            refine ⟨q1, _, q2, ?_⟩
            subst ex_10
            unfold f_tape; (repeat (first | rw [if_pos (by first | assumption | omega)] | rw [if_neg (by first | assumption | omega)])); first | exact ⟨rfl, rfl⟩ | rfl | (refine ⟨?_, ?_⟩ <;> first | rfl | omega | grind [hs_, hf_]) | grind [hs_, hf_]
          · refine G_bipush dX12_tape_41 (by decide) ?_
            refine G_iretZ rfl dX12_tape_43 ?_
            unfold f_tape; (repeat (first | rw [if_pos (by first | assumption | omega)] | rw [if_neg (by first | assumption | omega)])); first | exact ⟨rfl, rfl⟩ | rfl | (refine ⟨?_, ?_⟩ <;> first | rfl | omega | grind [hs_, hf_]) | grind [hs_, hf_]
        · refine G_bipush dX12_tape_30 (by decide) ?_
          refine G_iretZ rfl dX12_tape_32 ?_
          unfold f_tape; (repeat (first | rw [if_pos (by first | assumption | omega)] | rw [if_neg (by first | assumption | omega)])); first | exact ⟨rfl, rfl⟩ | rfl | (refine ⟨?_, ?_⟩ <;> first | rfl | omega | grind [hs_, hf_]) | grind [hs_, hf_]
  · refine G_iconst dX12_tape_8 ?_
    refine G_iretZ rfl dX12_tape_9 ?_
    unfold f_tape; (repeat (first | rw [if_pos (by first | assumption | omega)] | rw [if_neg (by first | assumption | omega)])); first | exact ⟨rfl, rfl⟩ | rfl | (refine ⟨?_, ?_⟩ <;> first | rfl | omega | grind [hs_, hf_]) | grind [hs_, hf_]

def f_nar (s v : Int) : Int := if s = 0 then b_i2b v else if s = 1 then b_i2s v else if s = 3 then (if v ≠ 0 then 1 else 0) else if s = 4 then b_and v 65535 else v
def f_item (h : HT) (t i v : Int) : Int × HT := if ¬ (0 ≤ t ∧ t ≤ 5) then (-1, h) else if h 122 t.toNat < 0 then (-11, h) else if ¬ (0 ≤ i ∧ i ≤ h 123 t.toNat - 1) then (-13, h) else (1, hs_ h 124 (60 * t + i).toNat (f_nar (h 122 t.toNat) v))
theorem m_narrow (d : Nat) (τ : TT) (h : HT) (hT : TK τ) (s v : Int) (r_s : -2147483648 ≤ s ∧ s ≤ 2147483647) (r_v : -2147483648 ≤ v ∧ v ≤ 2147483647) : S_ mX12_narrow d 0 0 [.inr (some 81), .inl s, .inl v] τ h (Zi τ fun r h' => r = f_nar s v ∧ h' = h) := by
  refine S_go (k := 0) (ls := [some (.inr (some 81)), some (.inl s), some (.inl v)]) (by decide) rfl (Nat.le_of_ble_eq_true rfl) rfl ?_
  refine G_iload_n (i := 1) dX12_narrow_0 rfl rfl ?_
  refine G_if_ne (tgt := 9) dX12_narrow_1 (by decide) (by omega) (fun c_1 => ?_) (fun c_1 => ?_)
  · refine G_iload_n (i := 1) dX12_narrow_9 rfl rfl ?_
    refine G_iconst dX12_narrow_10 ?_
    refine G_icmp_ne (tgt := 19) dX12_narrow_11 (by decide) (by omega) (by decide) (fun c_2 => ?_) (fun c_2 => ?_)
    · refine G_iload_n (i := 1) dX12_narrow_19 rfl rfl ?_
      refine G_iconst dX12_narrow_20 ?_
      refine G_icmp_ne (tgt := 36) dX12_narrow_21 (by decide) (by omega) (by decide) (fun c_3 => ?_) (fun c_3 => ?_)
      · refine G_iload_n (i := 1) dX12_narrow_36 rfl rfl ?_
        refine G_iconst dX12_narrow_37 ?_
        refine G_icmp_ne (tgt := 49) dX12_narrow_38 (by decide) (by omega) (by decide) (fun c_4 => ?_) (fun c_4 => ?_)
        · refine G_iload_n (i := 2) dX12_narrow_49 rfl rfl ?_
          refine G_iretZ rfl dX12_narrow_50 ?_
          exact ⟨by unfold f_nar; (repeat (first | rw [if_pos (by omega)] | rw [if_neg (by omega)])), rfl⟩
        · refine G_iload_n (i := 2) dX12_narrow_41 rfl rfl ?_
          refine G_ldcw (n := 65535) nX12_344 dX12_narrow_42 ?_
          refine G_iand dX12_narrow_45 ?_
          refine G_goto (tgt := 50) dX12_narrow_46 (by decide) ?_
          refine G_iretZ rfl dX12_narrow_50 ?_
          exact ⟨by unfold f_nar; (repeat (first | rw [if_pos (by omega)] | rw [if_neg (by omega)])), rfl⟩
      · refine G_iload_n (i := 2) dX12_narrow_24 rfl rfl ?_
        refine G_if_eq (tgt := 32) dX12_narrow_25 (by decide) (by omega) (fun c_5 => ?_) (fun c_5 => ?_)
        · refine G_iconst dX12_narrow_32 ?_
          refine G_goto (tgt := 50) dX12_narrow_33 (by decide) ?_
          refine G_iretZ rfl dX12_narrow_50 ?_
          exact ⟨by unfold f_nar; (repeat (first | rw [if_pos (by omega)] | rw [if_neg (by omega)])), rfl⟩
        · refine G_iconst dX12_narrow_28 ?_
          refine G_goto (tgt := 50) dX12_narrow_29 (by decide) ?_
          refine G_iretZ rfl dX12_narrow_50 ?_
          exact ⟨by unfold f_nar; (repeat (first | rw [if_pos (by omega)] | rw [if_neg (by omega)])), rfl⟩
    · refine G_iload_n (i := 2) dX12_narrow_14 rfl rfl ?_
      refine G_i2s dX12_narrow_15 ?_
      refine G_goto (tgt := 50) dX12_narrow_16 (by decide) ?_
      refine G_iretZ rfl dX12_narrow_50 ?_
      exact ⟨by unfold f_nar; (repeat (first | rw [if_pos (by omega)] | rw [if_neg (by omega)])), rfl⟩
  · refine G_iload_n (i := 2) dX12_narrow_4 rfl rfl ?_
    refine G_i2b dX12_narrow_5 ?_
    refine G_goto (tgt := 50) dX12_narrow_6 (by decide) ?_
    refine G_iretZ rfl dX12_narrow_50 ?_
    exact ⟨by unfold f_nar; (repeat (first | rw [if_pos (by omega)] | rw [if_neg (by omega)])), rfl⟩

theorem m_item (d : Nat) (τ : TT) (h : HT) (hT : TK τ) (t i v : Int) (r_t : -2147483648 ≤ t ∧ t ≤ 2147483647) (r_i : -2147483648 ≤ i ∧ i ≤ 2147483647) (r_v : -2147483648 ≤ v ∧ v ≤ 2147483647) (hso : ∀ k : Nat, k < 6 → -1 ≤ h 122 k ∧ h 122 k ≤ 4) (hsi : ∀ k : Nat, k < 6 → 0 ≤ h 123 k ∧ h 123 k ≤ 60) : S_ mX12_item (d + 2) 0 0 [.inr (some 81), .inl t, .inl i, .inl v] τ h (Zi τ fun r h' => r = (f_item h t i v).1 ∧ h' = (f_item h t i v).2) := by
  refine S_go (k := 0) (ls := [some (.inr (some 81)), some (.inl t), some (.inl i), some (.inl v)]) (by decide) rfl (Nat.le_of_ble_eq_true rfl) rfl ?_
  refine G_aload_n (i := 0) dX12_item_0 rfl rfl ?_
  refine G_iload_n (i := 1) dX12_item_1 rfl rfl ?_
  refine G_cVq (as := [.inl t]) qX12_310 (m_isTape d τ h hT t (by omega)) rfl rfl (Nat.le_of_ble_eq_true rfl) (o81 hT) dX12_item_2 ?_
  refine G_ifb_ne (tgt := 10) dX12_item_5 (by decide) (fun c_1 => ?_) (fun c_1 => ?_)
  · refine G_aload_n (i := 0) dX12_item_10 rfl rfl ?_
    refine G_getR fX12_183 rfl dX12_item_11 (o81 hT) (r81_57 hT) ?_
    refine G_iload_n (i := 1) dX12_item_14 rfl rfl ?_
    refine G_iald (v := h 122 ((t).toNat)) dX12_item_15 (o122 hT) (by omega) rfl ?_
    have e1_ := hso (t).toNat (by omega)
    refine G_if_ge (tgt := 22) dX12_item_16 (by decide) (by omega) (fun c_2 => ?_) (fun c_2 => ?_)
    · refine G_aload_n (i := 0) dX12_item_22 rfl rfl ?_
      refine G_iload_n (i := 2) dX12_item_23 rfl rfl ?_
      refine G_iconst dX12_item_24 ?_
      refine G_aload_n (i := 0) dX12_item_25 rfl rfl ?_
      refine G_getR fX12_186 rfl dX12_item_26 (o81 hT) (r81_58 hT) ?_
      refine G_iload_n (i := 1) dX12_item_29 rfl rfl ?_
      refine G_iald (v := h 123 ((t).toNat)) dX12_item_30 (o123 hT) (by omega) rfl ?_
      have e2_ := hsi (t).toNat (by omega)
      refine G_iconst dX12_item_31 ?_
      refine G_isub dX12_item_32 ?_
      refine G_cVq (as := [.inl i, .inl 0, .inl ((h 123 ((t).toNat)) - 1)]) qX12_195 (m_in (d + 1) τ _ 81 i 0 ((h 123 ((t).toNat)) - 1) (by omega) (by decide) (by omega)) rfl rfl (Nat.le_of_ble_eq_true rfl) (o81 hT) dX12_item_33 ?_
      refine G_ifb_ne (tgt := 42) dX12_item_36 (by decide) (fun c_3 => ?_) (fun c_3 => ?_)
      · refine G_aload_n (i := 0) dX12_item_42 rfl rfl ?_
        refine G_getR fX12_189 rfl dX12_item_43 (o81 hT) (r81_59 hT) ?_
        refine G_bipush dX12_item_46 (by decide) ?_
        refine G_iload_n (i := 1) dX12_item_48 rfl rfl ?_
        refine G_imul dX12_item_49 ?_
        refine G_iload_n (i := 2) dX12_item_50 rfl rfl ?_
        refine G_iadd dX12_item_51 ?_
        refine G_aload_n (i := 0) dX12_item_52 rfl rfl ?_
        refine G_aload_n (i := 0) dX12_item_53 rfl rfl ?_
        refine G_getR fX12_183 rfl dX12_item_54 (o81 hT) (r81_57 hT) ?_
        refine G_iload_n (i := 1) dX12_item_57 rfl rfl ?_
        refine G_iald (v := h 122 ((t).toNat)) dX12_item_58 (o122 hT) (by omega) rfl ?_
        have e1_ := hso (t).toNat (by omega)
        refine G_iload_n (i := 3) dX12_item_59 rfl rfl ?_
        refine G_cVq (as := [.inl (h 122 ((t).toNat)), .inl v]) qX12_345 (m_narrow (d + 1) τ h hT (h 122 ((t).toNat)) v (by first | omega | grind [hs_, hf_]) (by first | omega | grind [hs_, hf_])) rfl rfl (Nat.le_of_ble_eq_true rfl) (o81 hT) dX12_item_60 ?_
        refine G_iastk (((60 * t) + i).toNat) dX12_item_63 (o124 hT) (by omega) rfl ?_
        refine G_iconst dX12_item_64 ?_
        refine G_iretZ rfl dX12_item_65 ?_
        unfold f_item; (repeat (first | rw [if_pos (by first | assumption | omega)] | rw [if_neg (by first | assumption | omega)])); first | exact ⟨rfl, rfl⟩ | rfl | (refine ⟨?_, ?_⟩ <;> first | rfl | omega | grind [hs_, hf_]) | grind [hs_, hf_]
      · refine G_bipush dX12_item_39 (by decide) ?_
        refine G_iretZ rfl dX12_item_41 ?_
        unfold f_item; (repeat (first | rw [if_pos (by first | assumption | omega)] | rw [if_neg (by first | assumption | omega)])); first | exact ⟨rfl, rfl⟩ | rfl | (refine ⟨?_, ?_⟩ <;> first | rfl | omega | grind [hs_, hf_]) | grind [hs_, hf_]
    · refine G_bipush dX12_item_19 (by decide) ?_
      refine G_iretZ rfl dX12_item_21 ?_
      unfold f_item; (repeat (first | rw [if_pos (by first | assumption | omega)] | rw [if_neg (by first | assumption | omega)])); first | exact ⟨rfl, rfl⟩ | rfl | (refine ⟨?_, ?_⟩ <;> first | rfl | omega | grind [hs_, hf_]) | grind [hs_, hf_]
  · refine G_iconst dX12_item_8 ?_
    refine G_iretZ rfl dX12_item_9 ?_
    unfold f_item; (repeat (first | rw [if_pos (by first | assumption | omega)] | rw [if_neg (by first | assumption | omega)])); first | exact ⟨rfl, rfl⟩ | rfl | (refine ⟨?_, ?_⟩ <;> first | rfl | omega | grind [hs_, hf_]) | grind [hs_, hf_]

def f_read (h : HT) (t i : Int) : Int := if ¬ (0 ≤ t ∧ t ≤ 5) ∨ h 122 t.toNat < 0 ∨ ¬ (0 ≤ i ∧ i ≤ h 123 t.toNat - 1) then -1000000000 else h 124 (60 * t + i).toNat
theorem m_read (d : Nat) (τ : TT) (h : HT) (hT : TK τ) (t i : Int) (r_t : -2147483648 ≤ t ∧ t ≤ 2147483647) (r_i : -2147483648 ≤ i ∧ i ≤ 2147483647) (hso : ∀ k : Nat, k < 6 → -1 ≤ h 122 k ∧ h 122 k ≤ 4) (hsi : ∀ k : Nat, k < 6 → 0 ≤ h 123 k ∧ h 123 k ≤ 60) : S_ mX12_read (d + 2) 0 0 [.inr (some 81), .inl t, .inl i] τ h (Zi τ fun r h' => r = f_read h t i ∧ h' = h) := by
  refine S_go (k := 0) (ls := [some (.inr (some 81)), some (.inl t), some (.inl i)]) (by decide) rfl (Nat.le_of_ble_eq_true rfl) rfl ?_
  refine G_aload_n (i := 0) dX12_read_0 rfl rfl ?_
  refine G_iload_n (i := 1) dX12_read_1 rfl rfl ?_
  refine G_cVq (as := [.inl t]) qX12_310 (m_isTape d τ h hT t (by omega)) rfl rfl (Nat.le_of_ble_eq_true rfl) (o81 hT) dX12_read_2 ?_
  refine G_ifb_eq (tgt := 34) dX12_read_5 (by decide) (fun c_1 => ?_) (fun c_1 => ?_)
  · refine G_ldcw (n := (-1000000000)) nX12_348 dX12_read_34 ?_
    refine G_goto (tgt := 51) dX12_read_37 (by decide) ?_
    refine G_iretZ rfl dX12_read_51 ?_
    exact ⟨by unfold f_read; (repeat (first | rw [if_pos (by omega)] | rw [if_neg (by omega)])), rfl⟩
  · refine G_aload_n (i := 0) dX12_read_8 rfl rfl ?_
    refine G_getR fX12_183 rfl dX12_read_9 (o81 hT) (r81_57 hT) ?_
    refine G_iload_n (i := 1) dX12_read_12 rfl rfl ?_
    refine G_iald (v := h 122 ((t).toNat)) dX12_read_13 (o122 hT) (by omega) rfl ?_
    have e1_ := hso (t).toNat (by omega)
    refine G_if_lt (tgt := 34) dX12_read_14 (by decide) (by omega) (fun c_2 => ?_) (fun c_2 => ?_)
    · refine G_ldcw (n := (-1000000000)) nX12_348 dX12_read_34 ?_
      refine G_goto (tgt := 51) dX12_read_37 (by decide) ?_
      refine G_iretZ rfl dX12_read_51 ?_
      exact ⟨by unfold f_read; (repeat (first | rw [if_pos (by omega)] | rw [if_neg (by omega)])), rfl⟩
    · refine G_aload_n (i := 0) dX12_read_17 rfl rfl ?_
      refine G_iload_n (i := 2) dX12_read_18 rfl rfl ?_
      refine G_iconst dX12_read_19 ?_
      refine G_aload_n (i := 0) dX12_read_20 rfl rfl ?_
      refine G_getR fX12_186 rfl dX12_read_21 (o81 hT) (r81_58 hT) ?_
      refine G_iload_n (i := 1) dX12_read_24 rfl rfl ?_
      refine G_iald (v := h 123 ((t).toNat)) dX12_read_25 (o123 hT) (by omega) rfl ?_
      have e2_ := hsi (t).toNat (by omega)
      refine G_iconst dX12_read_26 ?_
      refine G_isub dX12_read_27 ?_
      refine G_cVq (as := [.inl i, .inl 0, .inl ((h 123 ((t).toNat)) - 1)]) qX12_195 (m_in (d + 1) τ _ 81 i 0 ((h 123 ((t).toNat)) - 1) (by omega) (by decide) (by omega)) rfl rfl (Nat.le_of_ble_eq_true rfl) (o81 hT) dX12_read_28 ?_
      refine G_ifb_ne (tgt := 40) dX12_read_31 (by decide) (fun c_3 => ?_) (fun c_3 => ?_)
      · refine G_aload_n (i := 0) dX12_read_40 rfl rfl ?_
        refine G_getR fX12_189 rfl dX12_read_41 (o81 hT) (r81_59 hT) ?_
        refine G_bipush dX12_read_44 (by decide) ?_
        refine G_iload_n (i := 1) dX12_read_46 rfl rfl ?_
        refine G_imul dX12_read_47 ?_
        refine G_iload_n (i := 2) dX12_read_48 rfl rfl ?_
        refine G_iadd dX12_read_49 ?_
        refine G_iald (v := h 124 (((60 * t) + i).toNat)) dX12_read_50 (o124 hT) (by omega) rfl ?_
        refine G_iretZ rfl dX12_read_51 ?_
        exact ⟨by unfold f_read; (repeat (first | rw [if_pos (by omega)] | rw [if_neg (by omega)])), rfl⟩
      · refine G_ldcw (n := (-1000000000)) nX12_348 dX12_read_34 ?_
        refine G_goto (tgt := 51) dX12_read_37 (by decide) ?_
        refine G_iretZ rfl dX12_read_51 ?_
        exact ⟨by unfold f_read; (repeat (first | rw [if_pos (by omega)] | rw [if_neg (by omega)])), rfl⟩

