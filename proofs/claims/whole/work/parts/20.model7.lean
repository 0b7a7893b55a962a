/-! the reference: shift, acts -/
def f_shift (h : HT) (t i o j k : Int) : Int × HT := if ¬ ((0 ≤ t ∧ t ≤ 5) ∧ (0 ≤ o ∧ o ≤ 5)) then (-1, h) else if h 122 t.toNat < 0 ∨ h 122 o.toNat < 0 then (-11, h) else if h 122 t.toNat ≠ h 122 o.toNat then (-12, h) else if k < 0 ∨ i < 0 ∨ j < 0 ∨ h 123 t.toNat - k < i ∨ h 123 o.toNat - k < j then (-13, h) else
  (k, hf_ (hf_ h 125 0 k.toNat (fun q => h 124 ((60 * t + i).toNat + q))) 124 (60 * o + j).toNat ((60 * o + j).toNat + k.toNat) (fun q => h 124 ((60 * t + i).toNat + (q - (60 * o + j).toNat))))
theorem m_shift_L2 (d : Nat) (τ : TT) (h : HT) (hT : TK τ) (t i o j k : Int) (g1 : 0 ≤ t ∧ t ≤ 5) (g2 : 0 ≤ o ∧ o ≤ 5) (g3 : 0 ≤ i ∧ 0 ≤ j ∧ 0 ≤ k) (g4 : i + k ≤ 60 ∧ j + k ≤ 60) : ∀ (n_ : Nat) (n : Nat), k.toNat - n < n_ → (n : Int) ≤ k → G_ mX12_shift (d + 2) 0 0 141 [some (.inr (some 81)), some (.inl t), some (.inl i), some (.inl o), some (.inl j), some (.inl k), some (.inl (n : Int))] [] τ (hf_ h 124 (60 * o + j).toNat ((60 * o + j).toNat + n) (fun q => h 125 (q - (60 * o + j).toNat))) (Zi τ fun v h' => v = k ∧ h' = hf_ h 124 (60 * o + j).toNat ((60 * o + j).toNat + k.toNat) (fun q => h 125 (q - (60 * o + j).toNat))) := by
  intro n_
  induction n_ with
  | zero => intro n hm_; exact absurd hm_ (Nat.not_lt_zero _)
  | succ n_ ih =>
    intro n hm_ hi
    refine G_iload dX12_shift_141 rfl ?_
    refine G_iload dX12_shift_143 rfl ?_
    refine G_icmp_ge (tgt := 176) dX12_shift_145 (by decide) (by omega) (by omega) (fun c_1 => ?_) (fun c_1 => ?_)
    · refine G_iload dX12_shift_176 rfl ?_
      refine G_iretZ rfl dX12_shift_178 ?_
      obtain rfl : n = k.toNat := by omega
      exact ⟨rfl, rfl⟩
    · refine G_aload_n (i := 0) dX12_shift_148 rfl rfl ?_
      refine G_getR fX12_189 rfl dX12_shift_149 (o81 hT) (r81_59 hT) ?_
      refine G_bipush dX12_shift_152 (by decide) ?_
      refine G_iload_n (i := 3) dX12_shift_154 rfl rfl ?_
      refine G_imul dX12_shift_155 ?_
      refine G_iload dX12_shift_156 rfl ?_
      refine G_iadd dX12_shift_158 ?_
      refine G_iload dX12_shift_159 rfl ?_
      refine G_iadd dX12_shift_161 ?_
      refine G_aload_n (i := 0) dX12_shift_162 rfl rfl ?_
      refine G_getR fX12_192 rfl dX12_shift_163 (o81 hT) (r81_60 hT) ?_
      refine G_iload dX12_shift_166 rfl ?_
      refine G_iald (v := h 125 n) dX12_shift_168 (o125 hT) (by omega) (hf_na (by decide)) ?_
      refine G_iastk ((((60 * o) + j) + (n : Int)).toNat) dX12_shift_169 (o124 hT) (by omega) rfl ?_
      refine G_iinc (ls' := [some (.inr (some 81)), some (.inl t), some (.inl i), some (.inl o), some (.inl j), some (.inl k), some (.inl ((n : Int) + 1))]) dX12_shift_170 (by decide) rfl rfl ?_
      refine G_goto (tgt := 141) dX12_shift_173 (by decide) ?_
      rw [show (60 * o + j + (n : Int)).toNat = (60 * o + j).toNat + n by omega, hf_snoc (by omega) (by rw [Nat.add_sub_cancel_left])]
      exact ih (n + 1) (by omega) (by omega)

theorem m_shift_L1 (d : Nat) (τ : TT) (h : HT) (hT : TK τ) (t i o j k : Int) (g1 : 0 ≤ t ∧ t ≤ 5) (g2 : 0 ≤ o ∧ o ≤ 5) (g3 : 0 ≤ i ∧ 0 ≤ j ∧ 0 ≤ k) (g4 : i + k ≤ 60 ∧ j + k ≤ 60) : ∀ (n_ : Nat) (n : Nat), k.toNat - n < n_ → (n : Int) ≤ k → G_ mX12_shift (d + 2) 0 0 104 [some (.inr (some 81)), some (.inl t), some (.inl i), some (.inl o), some (.inl j), some (.inl k), some (.inl (n : Int))] [] τ (hf_ h 125 0 n (fun q => h 124 ((60 * t + i).toNat + q))) (Zi τ fun v h' => v = k ∧ h' = hf_ (hf_ h 125 0 k.toNat (fun q => h 124 ((60 * t + i).toNat + q))) 124 (60 * o + j).toNat ((60 * o + j).toNat + k.toNat) (fun q => h 124 ((60 * t + i).toNat + (q - (60 * o + j).toNat)))) := by
  intro n_
  induction n_ with
  | zero => intro n hm_; exact absurd hm_ (Nat.not_lt_zero _)
  | succ n_ ih =>
    intro n hm_ hi
    refine G_iload dX12_shift_104 rfl ?_
    refine G_iload dX12_shift_106 rfl ?_
    refine G_icmp_ge (tgt := 138) dX12_shift_108 (by decide) (by omega) (by omega) (fun c_1 => ?_) (fun c_1 => ?_)
    · refine G_iconst dX12_shift_138 ?_
      refine G_istore (ls' := [some (.inr (some 81)), some (.inl t), some (.inl i), some (.inl o), some (.inl j), some (.inl k), some (.inl 0)]) dX12_shift_139 (by decide) rfl ?_
      obtain rfl : n = k.toNat := by omega
      have := m_shift_L2 d τ (hf_ h 125 0 k.toNat (fun q => h 124 ((60 * t + i).toNat + q))) hT t i o j k g1 g2 g3 g4 _ 0 (Nat.lt_succ_self _) (by omega)
      rw [show (60 * o + j).toNat + 0 = (60 * o + j).toNat from rfl, hf_nil] at this
      refine G_mono ?_ this
      rintro r τ' h' ⟨q1, v, q2, rfl, rfl⟩
      refine ⟨q1, _, q2, rfl, ?_⟩
      funext b q
      unfold hf_
      split
      · dsimp only; rw [if_pos (by omega)]
      · rfl
    · refine G_aload_n (i := 0) dX12_shift_111 rfl rfl ?_
      refine G_getR fX12_192 rfl dX12_shift_112 (o81 hT) (r81_60 hT) ?_
      refine G_iload dX12_shift_115 rfl ?_
      refine G_aload_n (i := 0) dX12_shift_117 rfl rfl ?_
      refine G_getR fX12_189 rfl dX12_shift_118 (o81 hT) (r81_59 hT) ?_
      refine G_bipush dX12_shift_121 (by decide) ?_
      refine G_iload_n (i := 1) dX12_shift_123 rfl rfl ?_
      refine G_imul dX12_shift_124 ?_
      refine G_iload_n (i := 2) dX12_shift_125 rfl rfl ?_
      refine G_iadd dX12_shift_126 ?_
      refine G_iload dX12_shift_127 rfl ?_
      refine G_iadd dX12_shift_129 ?_
      refine G_iald (v := h 124 (((60 * t) + i) + (n : Int)).toNat) dX12_shift_130 (o124 hT) (by omega) (hf_na (by decide)) ?_
      refine G_iastk n dX12_shift_131 (o125 hT) (by omega) rfl ?_
      refine G_iinc (ls' := [some (.inr (some 81)), some (.inl t), some (.inl i), some (.inl o), some (.inl j), some (.inl k), some (.inl ((n : Int) + 1))]) dX12_shift_132 (by decide) rfl rfl ?_
      refine G_goto (tgt := 104) dX12_shift_135 (by decide) ?_
      rw [hf_snoc (by omega) (by rw [show (60 * t + i + (n : Int)).toNat = (60 * t + i).toNat + n by omega])]
      exact ih (n + 1) (by omega) (by omega)

theorem m_shift (d : Nat) (τ : TT) (h : HT) (hT : TK τ) (t i o j k : Int) (r_t : -2147483648 ≤ t ∧ t ≤ 2147483647) (r_i : -2147483648 ≤ i ∧ i ≤ 2147483647) (r_o : -2147483648 ≤ o ∧ o ≤ 2147483647) (r_j : -2147483648 ≤ j ∧ j ≤ 2147483647) (r_k : -2147483648 ≤ k ∧ k ≤ 2147483647) (hso : ∀ k : Nat, k < 6 → -1 ≤ h 122 k ∧ h 122 k ≤ 4) (hsi : ∀ k : Nat, k < 6 → 0 ≤ h 123 k ∧ h 123 k ≤ 60) : S_ mX12_shift (d + 2) 0 0 [.inr (some 81), .inl t, .inl i, .inl o, .inl j, .inl k] τ h (Zi τ fun v h' => v = (f_shift h t i o j k).1 ∧ h' = (f_shift h t i o j k).2) := by
  refine S_go (k := 1) (ls := [some (.inr (some 81)), some (.inl t), some (.inl i), some (.inl o), some (.inl j), some (.inl k), none]) (by decide) rfl (Nat.le_of_ble_eq_true rfl) rfl ?_
  refine G_aload_n (i := 0) dX12_shift_0 rfl rfl ?_
  refine G_iload_n (i := 1) dX12_shift_1 rfl rfl ?_
  refine G_cVq (as := [.inl t]) qX12_310 (m_isTape d τ h hT t (by omega)) rfl rfl (Nat.le_of_ble_eq_true rfl) (o81 hT) dX12_shift_2 ?_
  refine G_ifb_eq (tgt := 16) dX12_shift_5 (by decide) (fun c_1 => ?_) (fun c_1 => ?_)
  · refine G_iconst dX12_shift_16 ?_
    refine G_iretZ rfl dX12_shift_17 ?_
    unfold f_shift; (repeat (first | rw [if_pos (by first | assumption | omega)] | rw [if_neg (by first | assumption | omega)])); first | exact ⟨rfl, rfl⟩ | rfl | (refine ⟨?_, ?_⟩ <;> first | rfl | omega | grind [hs_, hf_]) | grind [hs_, hf_]
  · refine G_aload_n (i := 0) dX12_shift_8 rfl rfl ?_
    refine G_iload_n (i := 3) dX12_shift_9 rfl rfl ?_
    refine G_cVq (as := [.inl o]) qX12_310 (m_isTape d τ h hT o (by omega)) rfl rfl (Nat.le_of_ble_eq_true rfl) (o81 hT) dX12_shift_10 ?_
    refine G_ifb_ne (tgt := 18) dX12_shift_13 (by decide) (fun c_2 => ?_) (fun c_2 => ?_)
    · refine G_aload_n (i := 0) dX12_shift_18 rfl rfl ?_
      refine G_getR fX12_183 rfl dX12_shift_19 (o81 hT) (r81_57 hT) ?_
      refine G_iload_n (i := 1) dX12_shift_22 rfl rfl ?_
      refine G_iald (v := h 122 ((t).toNat)) dX12_shift_23 (o122 hT) (by omega) rfl ?_
      have e23 := hso (t).toNat (by omega)
      refine G_if_lt (tgt := 36) dX12_shift_24 (by decide) (by omega) (fun c_3 => ?_) (fun c_3 => ?_)
      · refine G_bipush dX12_shift_36 (by decide) ?_
        refine G_iretZ rfl dX12_shift_38 ?_
        unfold f_shift; (repeat (first | rw [if_pos (by first | assumption | omega)] | rw [if_neg (by first | assumption | omega)])); first | exact ⟨rfl, rfl⟩ | rfl | (refine ⟨?_, ?_⟩ <;> first | rfl | omega | grind [hs_, hf_]) | grind [hs_, hf_]
      · refine G_aload_n (i := 0) dX12_shift_27 rfl rfl ?_
        refine G_getR fX12_183 rfl dX12_shift_28 (o81 hT) (r81_57 hT) ?_
        refine G_iload_n (i := 3) dX12_shift_31 rfl rfl ?_
        refine G_iald (v := h 122 ((o).toNat)) dX12_shift_32 (o122 hT) (by omega) rfl ?_
        have e32 := hso (o).toNat (by omega)
        refine G_if_ge (tgt := 39) dX12_shift_33 (by decide) (by omega) (fun c_4 => ?_) (fun c_4 => ?_)
        · refine G_aload_n (i := 0) dX12_shift_39 rfl rfl ?_
          refine G_getR fX12_183 rfl dX12_shift_40 (o81 hT) (r81_57 hT) ?_
          refine G_iload_n (i := 1) dX12_shift_43 rfl rfl ?_
          refine G_iald (v := h 122 ((t).toNat)) dX12_shift_44 (o122 hT) (by omega) rfl ?_
          have e44 := hso (t).toNat (by omega)
          refine G_aload_n (i := 0) dX12_shift_45 rfl rfl ?_
          refine G_getR fX12_183 rfl dX12_shift_46 (o81 hT) (r81_57 hT) ?_
          refine G_iload_n (i := 3) dX12_shift_49 rfl rfl ?_
          refine G_iald (v := h 122 ((o).toNat)) dX12_shift_50 (o122 hT) (by omega) rfl ?_
          have e50 := hso (o).toNat (by omega)
          refine G_icmp_eq (tgt := 57) dX12_shift_51 (by decide) (by omega) (by omega) (fun c_5 => ?_) (fun c_5 => ?_)
          · refine G_iload dX12_shift_57 rfl ?_
            refine G_if_lt (tgt := 98) dX12_shift_59 (by decide) (by omega) (fun c_6 => ?_) (fun c_6 => ?_)
            · refine G_bipush dX12_shift_98 (by decide) ?_
              refine G_iretZ rfl dX12_shift_100 ?_
              unfold f_shift; (repeat (first | rw [if_pos (by first | assumption | omega)] | rw [if_neg (by first | assumption | omega)])); first | exact ⟨rfl, rfl⟩ | rfl | (refine ⟨?_, ?_⟩ <;> first | rfl | omega | grind [hs_, hf_]) | grind [hs_, hf_]
            · refine G_iload_n (i := 2) dX12_shift_62 rfl rfl ?_
              refine G_if_lt (tgt := 98) dX12_shift_63 (by decide) (by omega) (fun c_7 => ?_) (fun c_7 => ?_)
              · refine G_bipush dX12_shift_98 (by decide) ?_
                refine G_iretZ rfl dX12_shift_100 ?_
                unfold f_shift; (repeat (first | rw [if_pos (by first | assumption | omega)] | rw [if_neg (by first | assumption | omega)])); first | exact ⟨rfl, rfl⟩ | rfl | (refine ⟨?_, ?_⟩ <;> first | rfl | omega | grind [hs_, hf_]) | grind [hs_, hf_]
              · refine G_iload dX12_shift_66 rfl ?_
                refine G_if_lt (tgt := 98) dX12_shift_68 (by decide) (by omega) (fun c_8 => ?_) (fun c_8 => ?_)
                · refine G_bipush dX12_shift_98 (by decide) ?_
                  refine G_iretZ rfl dX12_shift_100 ?_
                  unfold f_shift; (repeat (first | rw [if_pos (by first | assumption | omega)] | rw [if_neg (by first | assumption | omega)])); first | exact ⟨rfl, rfl⟩ | rfl | (refine ⟨?_, ?_⟩ <;> first | rfl | omega | grind [hs_, hf_]) | grind [hs_, hf_]
                · refine G_iload_n (i := 2) dX12_shift_71 rfl rfl ?_
                  refine G_aload_n (i := 0) dX12_shift_72 rfl rfl ?_
                  refine G_getR fX12_186 rfl dX12_shift_73 (o81 hT) (r81_58 hT) ?_
                  refine G_iload_n (i := 1) dX12_shift_76 rfl rfl ?_
                  refine G_iald (v := h 123 ((t).toNat)) dX12_shift_77 (o123 hT) (by omega) rfl ?_
                  have e77 := hsi (t).toNat (by omega)
                  refine G_iload dX12_shift_78 rfl ?_
                  refine G_isub dX12_shift_80 ?_
                  refine G_icmp_gt (tgt := 98) dX12_shift_81 (by decide) (by omega) (by omega) (fun c_9 => ?_) (fun c_9 => ?_)
                  · refine G_bipush dX12_shift_98 (by decide) ?_
                    refine G_iretZ rfl dX12_shift_100 ?_
                    unfold f_shift; (repeat (first | rw [if_pos (by first | assumption | omega)] | rw [if_neg (by first | assumption | omega)])); first | exact ⟨rfl, rfl⟩ | rfl | (refine ⟨?_, ?_⟩ <;> first | rfl | omega | grind [hs_, hf_]) | grind [hs_, hf_]
                  · refine G_iload dX12_shift_84 rfl ?_
                    refine G_aload_n (i := 0) dX12_shift_86 rfl rfl ?_
                    refine G_getR fX12_186 rfl dX12_shift_87 (o81 hT) (r81_58 hT) ?_
                    refine G_iload_n (i := 3) dX12_shift_90 rfl rfl ?_
                    refine G_iald (v := h 123 ((o).toNat)) dX12_shift_91 (o123 hT) (by omega) rfl ?_
                    have e91 := hsi (o).toNat (by omega)
                    refine G_iload dX12_shift_92 rfl ?_
                    refine G_isub dX12_shift_94 ?_
                    refine G_icmp_le (tgt := 101) dX12_shift_95 (by decide) (by omega) (by omega) (fun c_10 => ?_) (fun c_10 => ?_)
                    · refine G_iconst dX12_shift_101 ?_
                      refine G_istore (ls' := [some (.inr (some 81)), some (.inl t), some (.inl i), some (.inl o), some (.inl j), some (.inl k), some (.inl 0)]) dX12_shift_102 (by decide) rfl ?_
                      have := m_shift_L1 d τ h hT t i o j k (by omega) (by omega) (by omega) (by omega) _ 0 (Nat.lt_succ_self _) (by omega)
                      rw [hf_nil] at this
                      refine G_mono ?_ this
                      rintro r τ' h' ⟨q1, v, q2, rfl, rfl⟩
                      refine ⟨q1, _, q2, ?_⟩
                      unfold f_shift; (repeat (first | rw [if_pos (by first | assumption | omega)] | rw [if_neg (by first | assumption | omega)])); first | exact ⟨rfl, rfl⟩ | rfl | (refine ⟨?_, ?_⟩ <;> first | rfl | omega | grind [hs_, hf_]) | grind [hs_, hf_]
                    · refine G_bipush dX12_shift_98 (by decide) ?_
                      refine G_iretZ rfl dX12_shift_100 ?_
                      unfold f_shift; (repeat (first | rw [if_pos (by first | assumption | omega)] | rw [if_neg (by first | assumption | omega)])); first | exact ⟨rfl, rfl⟩ | rfl | (refine ⟨?_, ?_⟩ <;> first | rfl | omega | grind [hs_, hf_]) | grind [hs_, hf_]
          · refine G_bipush dX12_shift_54 (by decide) ?_
            refine G_iretZ rfl dX12_shift_56 ?_
            unfold f_shift; (repeat (first | rw [if_pos (by first | assumption | omega)] | rw [if_neg (by first | assumption | omega)])); first | exact ⟨rfl, rfl⟩ | rfl | (refine ⟨?_, ?_⟩ <;> first | rfl | omega | grind [hs_, hf_]) | grind [hs_, hf_]
        · refine G_bipush dX12_shift_36 (by decide) ?_
          refine G_iretZ rfl dX12_shift_38 ?_
          unfold f_shift; (repeat (first | rw [if_pos (by first | assumption | omega)] | rw [if_neg (by first | assumption | omega)])); first | exact ⟨rfl, rfl⟩ | rfl | (refine ⟨?_, ?_⟩ <;> first | rfl | omega | grind [hs_, hf_]) | grind [hs_, hf_]
    · refine G_iconst dX12_shift_16 ?_
      refine G_iretZ rfl dX12_shift_17 ?_
      unfold f_shift; (repeat (first | rw [if_pos (by first | assumption | omega)] | rw [if_neg (by first | assumption | omega)])); first | exact ⟨rfl, rfl⟩ | rfl | (refine ⟨?_, ?_⟩ <;> first | rfl | omega | grind [hs_, hf_]) | grind [hs_, hf_]

def f_trace (h : HT) (i : Int) : Int := if (0 ≤ i ∧ i ≤ 19) ∧ i < h 81 55 then h 121 i.toNat else -1
def f_taken (h : HT) (i k : Int) : Int := if ¬ (0 ≤ k ∧ k ≤ 4) then -2 else if ¬ (0 ≤ i ∧ i ≤ h 81 0 - 1) then -11 else if k = 0 ∨ h 82 i.toNat = k ∨ (k = 2 ∧ h 82 i.toNat = 3) then h 82 i.toNat else -12
theorem m_trace (d : Nat) (τ : TT) (h : HT) (hT : TK τ) (i : Int) (r_i : -2147483648 ≤ i ∧ i ≤ 2147483647) (hra : 0 ≤ h 81 55 ∧ h 81 55 ≤ 1000) : S_ mX12_trace (d + 1) 0 0 [.inr (some 81), .inl i] τ h (Zi τ fun v h' => v = f_trace h i ∧ h' = h) := by
  refine S_go (k := 0) (ls := [some (.inr (some 81)), some (.inl i)]) (by decide) rfl (Nat.le_of_ble_eq_true rfl) rfl ?_
  refine G_aload_n (i := 0) dX12_trace_0 rfl rfl ?_
  refine G_iload_n (i := 1) dX12_trace_1 rfl rfl ?_
  refine G_iconst dX12_trace_2 ?_
  refine G_bipush dX12_trace_3 (by decide) ?_
  refine G_cVq (as := [.inl i, .inl 0, .inl 19]) qX12_195 (m_in d τ _ 81 i 0 19 (by omega) (by decide) (by decide)) rfl rfl (Nat.le_of_ble_eq_true rfl) (o81 hT) dX12_trace_5 ?_
  refine G_ifb_eq (tgt := 28) dX12_trace_8 (by decide) (fun c_1 => ?_) (fun c_1 => ?_)
  · refine G_iconst dX12_trace_28 ?_
    refine G_iretZ rfl dX12_trace_29 ?_
    exact ⟨by unfold f_trace; (repeat (first | rw [if_pos (by omega)] | rw [if_neg (by omega)])), rfl⟩
  · refine G_iload_n (i := 1) dX12_trace_11 rfl rfl ?_
    refine G_aload_n (i := 0) dX12_trace_12 rfl rfl ?_
    refine G_getI (v := h 81 55) fX12_177 rfl dX12_trace_13 (o81 hT) rfl ?_
    refine G_icmp_ge (tgt := 28) dX12_trace_16 (by decide) (by omega) (by omega) (fun c_2 => ?_) (fun c_2 => ?_)
    · refine G_iconst dX12_trace_28 ?_
      refine G_iretZ rfl dX12_trace_29 ?_
      exact ⟨by unfold f_trace; (repeat (first | rw [if_pos (by omega)] | rw [if_neg (by omega)])), rfl⟩
    · refine G_aload_n (i := 0) dX12_trace_19 rfl rfl ?_
      refine G_getR fX12_180 rfl dX12_trace_20 (o81 hT) (r81_56 hT) ?_
      refine G_iload_n (i := 1) dX12_trace_23 rfl rfl ?_
      refine G_iald (v := h 121 ((i).toNat)) dX12_trace_24 (o121 hT) (by omega) rfl ?_
      refine G_goto (tgt := 29) dX12_trace_25 (by decide) ?_
      refine G_iretZ rfl dX12_trace_29 ?_
      exact ⟨by unfold f_trace; (repeat (first | rw [if_pos (by omega)] | rw [if_neg (by omega)])), rfl⟩

theorem m_taken (d : Nat) (τ : TT) (h : HT) (hT : TK τ) (i k : Int) (r_i : -2147483648 ≤ i ∧ i ≤ 2147483647) (r_k : -2147483648 ≤ k ∧ k ≤ 2147483647) (hp : 0 ≤ h 81 0 ∧ h 81 0 ≤ 15) (hk : ∀ k : Nat, k < 15 → 0 ≤ h 82 k ∧ h 82 k ≤ 4) : S_ mX12_taken (d + 2) 0 0 [.inr (some 81), .inl i, .inl k] τ h (Zi τ fun v h' => v = f_taken h i k ∧ h' = h) := by
  refine S_go (k := 0) (ls := [some (.inr (some 81)), some (.inl i), some (.inl k)]) (by decide) rfl (Nat.le_of_ble_eq_true rfl) rfl ?_
  refine G_aload_n (i := 0) dX12_taken_0 rfl rfl ?_
  refine G_iload_n (i := 2) dX12_taken_1 rfl rfl ?_
  refine G_iconst dX12_taken_2 ?_
  refine G_iconst dX12_taken_3 ?_
  refine G_cVq (as := [.inl k, .inl 0, .inl 4]) qX12_195 (m_in (d + 1) τ _ 81 k 0 4 (by omega) (by decide) (by decide)) rfl rfl (Nat.le_of_ble_eq_true rfl) (o81 hT) dX12_taken_4 ?_
  refine G_ifb_ne (tgt := 13) dX12_taken_7 (by decide) (fun c_1 => ?_) (fun c_1 => ?_)
  · refine G_aload_n (i := 0) dX12_taken_13 rfl rfl ?_
    refine G_iload_n (i := 1) dX12_taken_14 rfl rfl ?_
    refine G_cVq (as := [.inl i]) qX12_203 (m_isPerson d τ h hT i (by omega) (by first | omega | grind [hs_, hf_])) rfl rfl (Nat.le_of_ble_eq_true rfl) (o81 hT) dX12_taken_15 ?_
    refine G_ifb_ne (tgt := 24) dX12_taken_18 (by decide) (fun c_2 => ?_) (fun c_2 => ?_)
    · refine G_iload_n (i := 2) dX12_taken_24 rfl rfl ?_
      refine G_if_eq (tgt := 53) dX12_taken_25 (by decide) (by omega) (fun c_3 => ?_) (fun c_3 => ?_)
      · refine G_aload_n (i := 0) dX12_taken_53 rfl rfl ?_
        refine G_getR fX12_16 rfl dX12_taken_54 (o81 hT) (r81_2 hT) ?_
        refine G_iload_n (i := 1) dX12_taken_57 rfl rfl ?_
        refine G_iald (v := h 82 ((i).toNat)) dX12_taken_58 (o82 hT) (by omega) rfl ?_
        have e_ := hk (i).toNat (by omega)
        refine G_goto (tgt := 64) dX12_taken_59 (by decide) ?_
        refine G_iretZ rfl dX12_taken_64 ?_
        exact ⟨by unfold f_taken; (repeat (first | rw [if_pos (by omega)] | rw [if_neg (by omega)])), rfl⟩
      · refine G_aload_n (i := 0) dX12_taken_28 rfl rfl ?_
        refine G_getR fX12_16 rfl dX12_taken_29 (o81 hT) (r81_2 hT) ?_
        refine G_iload_n (i := 1) dX12_taken_32 rfl rfl ?_
        refine G_iald (v := h 82 ((i).toNat)) dX12_taken_33 (o82 hT) (by omega) rfl ?_
        have e_ := hk (i).toNat (by omega)
        refine G_iload_n (i := 2) dX12_taken_34 rfl rfl ?_
        refine G_icmp_eq (tgt := 53) dX12_taken_35 (by decide) (by omega) (by omega) (fun c_4 => ?_) (fun c_4 => ?_)
        · refine G_aload_n (i := 0) dX12_taken_53 rfl rfl ?_
          refine G_getR fX12_16 rfl dX12_taken_54 (o81 hT) (r81_2 hT) ?_
          refine G_iload_n (i := 1) dX12_taken_57 rfl rfl ?_
          refine G_iald (v := h 82 ((i).toNat)) dX12_taken_58 (o82 hT) (by omega) rfl ?_
          have e_ := hk (i).toNat (by omega)
          refine G_goto (tgt := 64) dX12_taken_59 (by decide) ?_
          refine G_iretZ rfl dX12_taken_64 ?_
          exact ⟨by unfold f_taken; (repeat (first | rw [if_pos (by omega)] | rw [if_neg (by omega)])), rfl⟩
        · refine G_iload_n (i := 2) dX12_taken_38 rfl rfl ?_
          refine G_iconst dX12_taken_39 ?_
          refine G_icmp_ne (tgt := 62) dX12_taken_40 (by decide) (by omega) (by decide) (fun c_5 => ?_) (fun c_5 => ?_)
          · refine G_bipush dX12_taken_62 (by decide) ?_
            refine G_iretZ rfl dX12_taken_64 ?_
            exact ⟨by unfold f_taken; (repeat (first | rw [if_pos (by omega)] | rw [if_neg (by omega)])), rfl⟩
          · refine G_aload_n (i := 0) dX12_taken_43 rfl rfl ?_
            refine G_getR fX12_16 rfl dX12_taken_44 (o81 hT) (r81_2 hT) ?_
            refine G_iload_n (i := 1) dX12_taken_47 rfl rfl ?_
            refine G_iald (v := h 82 ((i).toNat)) dX12_taken_48 (o82 hT) (by omega) rfl ?_
            have e_ := hk (i).toNat (by omega)
            refine G_iconst dX12_taken_49 ?_
            refine G_icmp_ne (tgt := 62) dX12_taken_50 (by decide) (by omega) (by decide) (fun c_6 => ?_) (fun c_6 => ?_)
            · refine G_bipush dX12_taken_62 (by decide) ?_
              refine G_iretZ rfl dX12_taken_64 ?_
              exact ⟨by unfold f_taken; (repeat (first | rw [if_pos (by omega)] | rw [if_neg (by omega)])), rfl⟩
            · refine G_aload_n (i := 0) dX12_taken_53 rfl rfl ?_
              refine G_getR fX12_16 rfl dX12_taken_54 (o81 hT) (r81_2 hT) ?_
              refine G_iload_n (i := 1) dX12_taken_57 rfl rfl ?_
              refine G_iald (v := h 82 ((i).toNat)) dX12_taken_58 (o82 hT) (by omega) rfl ?_
              have e_ := hk (i).toNat (by omega)
              refine G_goto (tgt := 64) dX12_taken_59 (by decide) ?_
              refine G_iretZ rfl dX12_taken_64 ?_
              exact ⟨by unfold f_taken; (repeat (first | rw [if_pos (by omega)] | rw [if_neg (by omega)])), rfl⟩
    · refine G_bipush dX12_taken_21 (by decide) ?_
      refine G_iretZ rfl dX12_taken_23 ?_
      exact ⟨by unfold f_taken; (repeat (first | rw [if_pos (by omega)] | rw [if_neg (by omega)])), rfl⟩
  · refine G_bipush dX12_taken_10 (by decide) ?_
    refine G_iretZ rfl dX12_taken_12 ?_
    exact ⟨by unfold f_taken; (repeat (first | rw [if_pos (by omega)] | rw [if_neg (by omega)])), rfl⟩

def f_body (h : HT) (b : Int) : HT := hs_ (if h 81 55 < 20 then hs_ h 121 (h 81 55).toNat b else h) 81 55 (h 81 55 + 1)
def f_logs (h : HT) : List Int → HT
  | [] => h
  | b :: t => f_logs (f_body h b) t
theorem f_logs_app (l : List Int) : ∀ (h : HT) (k : List Int), f_logs h (l ++ k) = f_logs (f_logs h l) k := by
  induction l with
  | nil => intro h k; rfl
  | cons b t ih => intro h k; exact ih (f_body h b) k
theorem f_body_o {h : HT} {b : Int} {a i : Nat} (ha : a ≠ 121 ∧ ¬ (a = 81 ∧ i = 55)) : f_body h b a i = h a i := by
  unfold f_body hs_
  split
  · rename_i q; exact absurd q ha.2
  · split
    · exact if_neg fun q => ha.1 q.1
    · rfl
theorem f_logs_o (l : List Int) : ∀ {h : HT} {a i : Nat}, (a ≠ 121 ∧ ¬ (a = 81 ∧ i = 55)) → f_logs h l a i = h a i := by
  induction l with
  | nil => intros; rfl
  | cons b t ih => intro h a i ha; exact (ih ha).trans (f_body_o ha)
theorem f_body_n {h : HT} {b : Int} : f_body h b 81 55 = h 81 55 + 1 := hs_eq
theorem f_logs_n (l : List Int) : ∀ {h : HT}, f_logs h l 81 55 = h 81 55 + l.length := by
  induction l with
  | nil => intro h; simp [f_logs]
  | cons b t ih => intro h; show f_logs (f_body h b) t 81 55 = _; rw [ih, f_body_n]; simp; omega
def gL (k : Int) : List Int := if k = 1 then [20, 10] else if k = 3 then [40, 10] else [10]
def gV (k r x : Int) : Int := if k = 1 then x + r - 4 else if k = 3 then x * 3 + r else x + r
def pL (k : Int) : List Int := 11 :: gL k
def pV (k r a x : Int) : Int := gV k r x - a
def eL (k : Int) : List Int := 30 :: (pL k ++ gL k)
def eV (k r a x : Int) : Int := pV k r a x + gV k r x
def lL (k : Int) : List Int := if k = 2 then eL k else if k = 3 then 41 :: eL k else pL k
def lV (k r a x : Int) : Int := if k = 2 then eV k r a x else if k = 3 then -eV k r a x else pV k r a x
def qL (k : Int) : List Int := 12 :: lL k
def qV (k r a i x : Int) : Int := b_xor (lV k r a x) i
def sL (k : Int) : List Int := if k = 4 then 50 :: (lL k ++ qL k) else qL k
def sV (k r a i x : Int) : Int := if k = 4 then lV k r a x + qV k r a i (x - 1) else qV k r a i x
theorem gL_n (k : Int) : (gL k).length ≤ 2 := by unfold gL; split <;> (try split) <;> decide
theorem pL_n (k : Int) : (pL k).length ≤ 3 := Nat.succ_le_succ (gL_n k)
theorem eL_n (k : Int) : (eL k).length ≤ 6 := by have := gL_n k; have := pL_n k; simp only [eL, List.length_cons, List.length_append]; omega
theorem lL_n (k : Int) : (lL k).length ≤ 7 := by have := eL_n k; have := pL_n k; unfold lL; split <;> (try split) <;> simp <;> omega
theorem qL_n (k : Int) : (qL k).length ≤ 8 := Nat.succ_le_succ (lL_n k)
theorem sL_n (k : Int) : (sL k).length ≤ 16 := by have := lL_n k; have := qL_n k; unfold sL; split <;> simp <;> omega
theorem m_body (d : Nat) (τ : TT) (h : HT) (hT : TK τ) (b : Int) (hra : 0 ≤ h 81 55 ∧ h 81 55 ≤ 1000) : S_ mX12_body d 0 0 [.inr (some 81), .inl b] τ h (Zv τ fun h' => h' = f_body h b) := by
  refine S_go (k := 0) (ls := [some (.inr (some 81)), some (.inl b)]) (by decide) rfl (Nat.le_of_ble_eq_true rfl) rfl ?_
  refine G_aload_n (i := 0) dX12_body_0 rfl rfl ?_
  refine G_getI (v := h 81 55) fX12_177 rfl dX12_body_1 (o81 hT) rfl ?_
  refine G_bipush dX12_body_4 (by decide) ?_
  refine G_icmp_ge (tgt := 19) dX12_body_6 (by decide) (by omega) (by decide) (fun c_1 => ?_) (fun c_1 => ?_)
  · refine G_aload_n (i := 0) dX12_body_19 rfl rfl ?_
    refine G_dup dX12_body_20 ?_
    refine G_getI (v := h 81 55) fX12_177 rfl dX12_body_21 (o81 hT) rfl ?_
    refine G_iconst dX12_body_24 ?_
    refine G_iadd dX12_body_25 ?_
    refine G_putI fX12_177 dX12_body_26 (o81 hT) ?_
    refine G_vretZ rfl dX12_body_29 ?_
    unfold f_body; first | rw [if_pos (by omega)] | rw [if_neg (by omega)]
  · refine G_aload_n (i := 0) dX12_body_9 rfl rfl ?_
    refine G_getR fX12_180 rfl dX12_body_10 (o81 hT) (r81_56 hT) ?_
    refine G_aload_n (i := 0) dX12_body_13 rfl rfl ?_
    refine G_getI (v := h 81 55) fX12_177 rfl dX12_body_14 (o81 hT) rfl ?_
    refine G_iload_n (i := 1) dX12_body_17 rfl rfl ?_
    refine G_iastk ((h 81 55).toNat) dX12_body_18 (o121 hT) (by omega) rfl ?_
    refine G_aload_n (i := 0) dX12_body_19 rfl rfl ?_
    refine G_dup dX12_body_20 ?_
    refine G_getI (v := h 81 55) fX12_177 rfl dX12_body_21 (o81 hT) (hs_na (by decide)) ?_
    refine G_iconst dX12_body_24 ?_
    refine G_iadd dX12_body_25 ?_
    refine G_putI fX12_177 dX12_body_26 (o81 hT) ?_
    refine G_vretZ rfl dX12_body_29 ?_
    unfold f_body; first | rw [if_pos (by omega)] | rw [if_neg (by omega)]

theorem m_plainGreets (d : Nat) (τ : TT) (h : HT) (hT : TK τ) (i x : Int) (hi : 0 ≤ i ∧ i < 15) (hra : 0 ≤ h 81 55 ∧ h 81 55 ≤ 900) : S_ mX12_plainGreets (d + 1) 0 0 [.inr (some 81), .inl i, .inl x] τ h (Zi τ fun v h' => v = x + h 83 i.toNat ∧ h' = f_body h 10) := by
  refine S_go (k := 0) (ls := [some (.inr (some 81)), some (.inl i), some (.inl x)]) (by decide) rfl (Nat.le_of_ble_eq_true rfl) rfl ?_
  refine G_aload_n (i := 0) dX12_plainGreets_0 rfl rfl ?_
  refine G_bipush dX12_plainGreets_1 (by decide) ?_
  refine G_cVv (as := [.inl 10]) qX12_320 (m_body d τ h hT 10 (by first | omega | (simp only [f_body_n, f_logs_n]; omega) | (simp only [f_body_n, f_logs_n, List.length_cons, List.length_nil]; omega))) rfl rfl (Nat.le_of_ble_eq_true rfl) (o81 hT) dX12_plainGreets_3 (fun h' e' => ?_)
  subst e'
  refine G_iload_n (i := 2) dX12_plainGreets_6 rfl rfl ?_
  refine G_aload_n (i := 0) dX12_plainGreets_7 rfl rfl ?_
  refine G_getR fX12_20 rfl dX12_plainGreets_8 (o81 hT) (r81_3 hT) ?_
  refine G_iload_n (i := 1) dX12_plainGreets_11 rfl rfl ?_
  refine G_iald (v := (f_body h 10) 83 ((i).toNat)) dX12_plainGreets_12 (o83 hT) (by omega) rfl ?_
  refine G_iadd dX12_plainGreets_13 ?_
  refine G_iretZ rfl dX12_plainGreets_14 ?_
  exact ⟨by rw [f_body_o (show (83 : Nat) ≠ 121 ∧ ¬ ((83 : Nat) = 81 ∧ i.toNat = 55) from ⟨by decide, fun z => absurd z.1 (by decide)⟩)], rfl⟩

theorem m_greetsOf (d : Nat) (τ : TT) (h : HT) (hT : TK τ) (i x : Int) (hi : 0 ≤ i ∧ i < 15) (hra : 0 ≤ h 81 55 ∧ h 81 55 ≤ 800) (hk : ∀ k : Nat, k < 15 → 0 ≤ h 82 k ∧ h 82 k ≤ 4) : S_ mX12_greetsOf (d + 2) 0 0 [.inr (some 81), .inl i, .inl x] τ h (Zi τ fun v h' => v = gV (h 82 i.toNat) (h 83 i.toNat) x ∧ h' = f_logs h (gL (h 82 i.toNat))) := by
  refine S_go (k := 0) (ls := [some (.inr (some 81)), some (.inl i), some (.inl x)]) (by decide) rfl (Nat.le_of_ble_eq_true rfl) rfl ?_
  refine G_aload_n (i := 0) dX12_greetsOf_0 rfl rfl ?_
  refine G_getR fX12_16 rfl dX12_greetsOf_1 (o81 hT) (r81_2 hT) ?_
  refine G_iload_n (i := 1) dX12_greetsOf_4 rfl rfl ?_
  refine G_iald (v := h 82 ((i).toNat)) dX12_greetsOf_5 (o82 hT) (by omega) rfl ?_
  have e_ := hk i.toNat (by omega)
  refine G_iconst dX12_greetsOf_6 ?_
  refine G_icmp_ne (tgt := 25) dX12_greetsOf_7 (by decide) (by omega) (by decide) (fun c_1 => ?_) (fun c_1 => ?_)
  · refine G_aload_n (i := 0) dX12_greetsOf_25 rfl rfl ?_
    refine G_getR fX12_16 rfl dX12_greetsOf_26 (o81 hT) (r81_2 hT) ?_
    refine G_iload_n (i := 1) dX12_greetsOf_29 rfl rfl ?_
    refine G_iald (v := h 82 ((i).toNat)) dX12_greetsOf_30 (o82 hT) (by omega) rfl ?_
    have e_ := hk i.toNat (by omega)
    refine G_iconst dX12_greetsOf_31 ?_
    refine G_icmp_ne (tgt := 50) dX12_greetsOf_32 (by decide) (by omega) (by decide) (fun c_2 => ?_) (fun c_2 => ?_)
    · refine G_aload_n (i := 0) dX12_greetsOf_50 rfl rfl ?_
      refine G_iload_n (i := 1) dX12_greetsOf_51 rfl rfl ?_
      refine G_iload_n (i := 2) dX12_greetsOf_52 rfl rfl ?_
      refine G_cVi (as := [.inl i, .inl x]) qX12_323 (m_plainGreets d τ h hT i x hi (by first | omega | (simp only [f_body_n, f_logs_n]; have := pL_n (h 82 i.toNat); have := lL_n (h 82 i.toNat); have := gL_n (h 82 i.toNat); omega) | (simp only [f_body_n, f_logs_n, f_body_o (show (82 : Nat) ≠ 121 ∧ ¬ ((82 : Nat) = 81 ∧ i.toNat = 55) by decide)]; omega))) rfl rfl (Nat.le_of_ble_eq_true rfl) (o81 hT) dX12_greetsOf_53 (fun v' h' e' => ?_)
      obtain ⟨rfl, rfl⟩ := e'
      refine G_iretZ rfl dX12_greetsOf_56 ?_
      unfold gV gL; (repeat (first | rw [if_pos (by omega)] | rw [if_neg (by omega)])); exact ⟨rfl, rfl⟩
    · refine G_aload_n (i := 0) dX12_greetsOf_35 rfl rfl ?_
      refine G_bipush dX12_greetsOf_36 (by decide) ?_
      refine G_cVv (as := [.inl 40]) qX12_320 (m_body (d + 1) τ h hT 40 (by first | omega | (simp only [f_body_n, f_logs_n]; omega) | (simp only [f_body_n, f_logs_n, List.length_cons, List.length_nil]; omega))) rfl rfl (Nat.le_of_ble_eq_true rfl) (o81 hT) dX12_greetsOf_38 (fun h' e' => ?_)
      subst e'
      refine G_aload_n (i := 0) dX12_greetsOf_41 rfl rfl ?_
      refine G_iload_n (i := 1) dX12_greetsOf_42 rfl rfl ?_
      refine G_iload_n (i := 2) dX12_greetsOf_43 rfl rfl ?_
      refine G_iconst dX12_greetsOf_44 ?_
      refine G_imul dX12_greetsOf_45 ?_
      refine G_cVi (as := [.inl i, .inl (x * 3)]) qX12_323 (m_plainGreets d τ (f_body h 40) hT i (x * 3) hi (by first | omega | (simp only [f_body_n, f_logs_n]; have := pL_n (h 82 i.toNat); have := lL_n (h 82 i.toNat); have := gL_n (h 82 i.toNat); omega) | (simp only [f_body_n, f_logs_n, f_body_o (show (82 : Nat) ≠ 121 ∧ ¬ ((82 : Nat) = 81 ∧ i.toNat = 55) by decide)]; omega))) rfl rfl (Nat.le_of_ble_eq_true rfl) (o81 hT) dX12_greetsOf_46 (fun v' h' e' => ?_)
      rw [f_body_o (show (83 : Nat) ≠ 121 ∧ ¬ ((83 : Nat) = 81 ∧ i.toNat = 55) from ⟨by decide, fun z => absurd z.1 (by decide)⟩)] at e'
      obtain ⟨rfl, rfl⟩ := e'
      refine G_iretZ rfl dX12_greetsOf_49 ?_
      unfold gV gL; (repeat (first | rw [if_pos (by omega)] | rw [if_neg (by omega)])); exact ⟨rfl, rfl⟩
  · refine G_aload_n (i := 0) dX12_greetsOf_10 rfl rfl ?_
    refine G_bipush dX12_greetsOf_11 (by decide) ?_
    refine G_cVv (as := [.inl 20]) qX12_320 (m_body (d + 1) τ h hT 20 (by first | omega | (simp only [f_body_n, f_logs_n]; omega) | (simp only [f_body_n, f_logs_n, List.length_cons, List.length_nil]; omega))) rfl rfl (Nat.le_of_ble_eq_true rfl) (o81 hT) dX12_greetsOf_13 (fun h' e' => ?_)
    subst e'
    refine G_aload_n (i := 0) dX12_greetsOf_16 rfl rfl ?_
    refine G_iload_n (i := 1) dX12_greetsOf_17 rfl rfl ?_
    refine G_iload_n (i := 2) dX12_greetsOf_18 rfl rfl ?_
    refine G_cVi (as := [.inl i, .inl x]) qX12_323 (m_plainGreets d τ (f_body h 20) hT i x hi (by first | omega | (simp only [f_body_n, f_logs_n]; have := pL_n (h 82 i.toNat); have := lL_n (h 82 i.toNat); have := gL_n (h 82 i.toNat); omega) | (simp only [f_body_n, f_logs_n, f_body_o (show (82 : Nat) ≠ 121 ∧ ¬ ((82 : Nat) = 81 ∧ i.toNat = 55) by decide)]; omega))) rfl rfl (Nat.le_of_ble_eq_true rfl) (o81 hT) dX12_greetsOf_19 (fun v' h' e' => ?_)
    rw [f_body_o (show (83 : Nat) ≠ 121 ∧ ¬ ((83 : Nat) = 81 ∧ i.toNat = 55) from ⟨by decide, fun z => absurd z.1 (by decide)⟩)] at e'
    obtain ⟨rfl, rfl⟩ := e'
    refine G_iconst dX12_greetsOf_22 ?_
    refine G_isub dX12_greetsOf_23 ?_
    refine G_iretZ rfl dX12_greetsOf_24 ?_
    unfold gV gL; (repeat (first | rw [if_pos (by omega)] | rw [if_neg (by omega)])); exact ⟨rfl, rfl⟩

theorem m_plainLeads (d : Nat) (τ : TT) (h : HT) (hT : TK τ) (i x : Int) (hi : 0 ≤ i ∧ i < 15) (hra : 0 ≤ h 81 55 ∧ h 81 55 ≤ 700) (hk : ∀ k : Nat, k < 15 → 0 ≤ h 82 k ∧ h 82 k ≤ 4) : S_ mX12_plainLeads (d + 3) 0 0 [.inr (some 81), .inl i, .inl x] τ h (Zi τ fun v h' => v = pV (h 82 i.toNat) (h 83 i.toNat) (h 84 i.toNat) x ∧ h' = f_logs h (pL (h 82 i.toNat))) := by
  refine S_go (k := 0) (ls := [some (.inr (some 81)), some (.inl i), some (.inl x)]) (by decide) rfl (Nat.le_of_ble_eq_true rfl) rfl ?_
  refine G_aload_n (i := 0) dX12_plainLeads_0 rfl rfl ?_
  refine G_bipush dX12_plainLeads_1 (by decide) ?_
  refine G_cVv (as := [.inl 11]) qX12_320 (m_body (d + 2) τ h hT 11 (by first | omega | (simp only [f_body_n, f_logs_n]; omega) | (simp only [f_body_n, f_logs_n, List.length_cons, List.length_nil]; omega))) rfl rfl (Nat.le_of_ble_eq_true rfl) (o81 hT) dX12_plainLeads_3 (fun h' e' => ?_)
  subst e'
  refine G_aload_n (i := 0) dX12_plainLeads_6 rfl rfl ?_
  refine G_iload_n (i := 1) dX12_plainLeads_7 rfl rfl ?_
  refine G_iload_n (i := 2) dX12_plainLeads_8 rfl rfl ?_
  refine G_cVi (as := [.inl i, .inl x]) qX12_326 (m_greetsOf d τ (f_body h 11) hT i x hi (by first | omega | (simp only [f_body_n, f_logs_n]; have := pL_n (h 82 i.toNat); have := lL_n (h 82 i.toNat); have := gL_n (h 82 i.toNat); omega) | (simp only [f_body_n, f_logs_n, f_body_o (show (82 : Nat) ≠ 121 ∧ ¬ ((82 : Nat) = 81 ∧ i.toNat = 55) by decide)]; omega)) (by intro k q; first | exact hk k q | (simp only [f_logs_o _ (show (82 : Nat) ≠ 121 ∧ ¬ ((82 : Nat) = 81 ∧ k = 55) from ⟨by decide, fun z => absurd z.1 (by decide)⟩), f_body_o (show (82 : Nat) ≠ 121 ∧ ¬ ((82 : Nat) = 81 ∧ k = 55) from ⟨by decide, fun z => absurd z.1 (by decide)⟩)]; exact hk k q))) rfl rfl (Nat.le_of_ble_eq_true rfl) (o81 hT) dX12_plainLeads_9 (fun v' h' e' => ?_)
  simp only [f_logs_o _ (show (82 : Nat) ≠ 121 ∧ ¬ ((82 : Nat) = 81 ∧ i.toNat = 55) from ⟨by decide, fun z => absurd z.1 (by decide)⟩), f_logs_o _ (show (83 : Nat) ≠ 121 ∧ ¬ ((83 : Nat) = 81 ∧ i.toNat = 55) from ⟨by decide, fun z => absurd z.1 (by decide)⟩), f_logs_o _ (show (84 : Nat) ≠ 121 ∧ ¬ ((84 : Nat) = 81 ∧ i.toNat = 55) from ⟨by decide, fun z => absurd z.1 (by decide)⟩), f_body_o (show (82 : Nat) ≠ 121 ∧ ¬ ((82 : Nat) = 81 ∧ i.toNat = 55) from ⟨by decide, fun z => absurd z.1 (by decide)⟩), f_body_o (show (83 : Nat) ≠ 121 ∧ ¬ ((83 : Nat) = 81 ∧ i.toNat = 55) from ⟨by decide, fun z => absurd z.1 (by decide)⟩), f_body_o (show (84 : Nat) ≠ 121 ∧ ¬ ((84 : Nat) = 81 ∧ i.toNat = 55) from ⟨by decide, fun z => absurd z.1 (by decide)⟩)] at e'
  obtain ⟨rfl, rfl⟩ := e'
  refine G_aload_n (i := 0) dX12_plainLeads_12 rfl rfl ?_
  refine G_getR fX12_23 rfl dX12_plainLeads_13 (o81 hT) (r81_4 hT) ?_
  refine G_iload_n (i := 1) dX12_plainLeads_16 rfl rfl ?_
  refine G_iald (v := (f_logs (f_body h 11) (gL (h 82 i.toNat))) 84 ((i).toNat)) dX12_plainLeads_17 (o84 hT) (by omega) rfl ?_
  refine G_isub dX12_plainLeads_18 ?_
  refine G_iretZ rfl dX12_plainLeads_19 ?_
  exact ⟨by simp only [f_logs_o _ (show (83 : Nat) ≠ 121 ∧ ¬ ((83 : Nat) = 81 ∧ i.toNat = 55) from ⟨by decide, fun z => absurd z.1 (by decide)⟩), f_body_o (show (83 : Nat) ≠ 121 ∧ ¬ ((83 : Nat) = 81 ∧ i.toNat = 55) from ⟨by decide, fun z => absurd z.1 (by decide)⟩), f_logs_o _ (show (84 : Nat) ≠ 121 ∧ ¬ ((84 : Nat) = 81 ∧ i.toNat = 55) from ⟨by decide, fun z => absurd z.1 (by decide)⟩), f_body_o (show (84 : Nat) ≠ 121 ∧ ¬ ((84 : Nat) = 81 ∧ i.toNat = 55) from ⟨by decide, fun z => absurd z.1 (by decide)⟩)]; rfl, rfl⟩

theorem m_leaderLeads (d : Nat) (τ : TT) (h : HT) (hT : TK τ) (i x : Int) (hi : 0 ≤ i ∧ i < 15) (hra : 0 ≤ h 81 55 ∧ h 81 55 ≤ 600) (hk : ∀ k : Nat, k < 15 → 0 ≤ h 82 k ∧ h 82 k ≤ 4) : S_ mX12_leaderLeads (d + 4) 0 0 [.inr (some 81), .inl i, .inl x] τ h (Zi τ fun v h' => v = eV (h 82 i.toNat) (h 83 i.toNat) (h 84 i.toNat) x ∧ h' = f_logs h (eL (h 82 i.toNat))) := by
  refine S_go (k := 1) (ls := [some (.inr (some 81)), some (.inl i), some (.inl x), none]) (by decide) rfl (Nat.le_of_ble_eq_true rfl) rfl ?_
  refine G_aload_n (i := 0) dX12_leaderLeads_0 rfl rfl ?_
  refine G_bipush dX12_leaderLeads_1 (by decide) ?_
  refine G_cVv (as := [.inl 30]) qX12_320 (m_body (d + 3) τ h hT 30 (by first | omega | (simp only [f_body_n, f_logs_n]; omega) | (simp only [f_body_n, f_logs_n, List.length_cons, List.length_nil]; omega))) rfl rfl (Nat.le_of_ble_eq_true rfl) (o81 hT) dX12_leaderLeads_3 (fun h' e' => ?_)
  subst e'
  refine G_aload_n (i := 0) dX12_leaderLeads_6 rfl rfl ?_
  refine G_iload_n (i := 1) dX12_leaderLeads_7 rfl rfl ?_
  refine G_iload_n (i := 2) dX12_leaderLeads_8 rfl rfl ?_
  refine G_cVi (as := [.inl i, .inl x]) qX12_329 (m_plainLeads d τ (f_body h 30) hT i x hi (by first | omega | (simp only [f_body_n, f_logs_n]; have := pL_n (h 82 i.toNat); have := lL_n (h 82 i.toNat); have := gL_n (h 82 i.toNat); omega) | (simp only [f_body_n, f_logs_n, f_body_o (show (82 : Nat) ≠ 121 ∧ ¬ ((82 : Nat) = 81 ∧ i.toNat = 55) by decide)]; omega)) (by intro k q; first | exact hk k q | (simp only [f_logs_o _ (show (82 : Nat) ≠ 121 ∧ ¬ ((82 : Nat) = 81 ∧ k = 55) from ⟨by decide, fun z => absurd z.1 (by decide)⟩), f_body_o (show (82 : Nat) ≠ 121 ∧ ¬ ((82 : Nat) = 81 ∧ k = 55) from ⟨by decide, fun z => absurd z.1 (by decide)⟩)]; exact hk k q))) rfl rfl (Nat.le_of_ble_eq_true rfl) (o81 hT) dX12_leaderLeads_9 (fun v' h' e' => ?_)
  simp only [f_logs_o _ (show (82 : Nat) ≠ 121 ∧ ¬ ((82 : Nat) = 81 ∧ i.toNat = 55) from ⟨by decide, fun z => absurd z.1 (by decide)⟩), f_logs_o _ (show (83 : Nat) ≠ 121 ∧ ¬ ((83 : Nat) = 81 ∧ i.toNat = 55) from ⟨by decide, fun z => absurd z.1 (by decide)⟩), f_logs_o _ (show (84 : Nat) ≠ 121 ∧ ¬ ((84 : Nat) = 81 ∧ i.toNat = 55) from ⟨by decide, fun z => absurd z.1 (by decide)⟩), f_body_o (show (82 : Nat) ≠ 121 ∧ ¬ ((82 : Nat) = 81 ∧ i.toNat = 55) from ⟨by decide, fun z => absurd z.1 (by decide)⟩), f_body_o (show (83 : Nat) ≠ 121 ∧ ¬ ((83 : Nat) = 81 ∧ i.toNat = 55) from ⟨by decide, fun z => absurd z.1 (by decide)⟩), f_body_o (show (84 : Nat) ≠ 121 ∧ ¬ ((84 : Nat) = 81 ∧ i.toNat = 55) from ⟨by decide, fun z => absurd z.1 (by decide)⟩)] at e'
  obtain ⟨rfl, rfl⟩ := e'
  refine G_istore_n (i := 3) (ls' := [some (.inr (some 81)), some (.inl i), some (.inl x), some (.inl (pV (h 82 i.toNat) (h 83 i.toNat) (h 84 i.toNat) x))]) dX12_leaderLeads_12 rfl (by decide) rfl ?_
  refine G_iload_n (i := 3) dX12_leaderLeads_13 rfl rfl ?_
  refine G_aload_n (i := 0) dX12_leaderLeads_14 rfl rfl ?_
  refine G_iload_n (i := 1) dX12_leaderLeads_15 rfl rfl ?_
  refine G_iload_n (i := 2) dX12_leaderLeads_16 rfl rfl ?_
  refine G_cVi (as := [.inl i, .inl x]) qX12_326 (m_greetsOf (d + 1) τ (f_logs (f_body h 30) (pL (h 82 i.toNat))) hT i x hi (by first | omega | (simp only [f_body_n, f_logs_n]; have := pL_n (h 82 i.toNat); have := lL_n (h 82 i.toNat); have := gL_n (h 82 i.toNat); omega) | (simp only [f_body_n, f_logs_n, f_body_o (show (82 : Nat) ≠ 121 ∧ ¬ ((82 : Nat) = 81 ∧ i.toNat = 55) by decide)]; omega)) (by intro k q; first | exact hk k q | (simp only [f_logs_o _ (show (82 : Nat) ≠ 121 ∧ ¬ ((82 : Nat) = 81 ∧ k = 55) from ⟨by decide, fun z => absurd z.1 (by decide)⟩), f_body_o (show (82 : Nat) ≠ 121 ∧ ¬ ((82 : Nat) = 81 ∧ k = 55) from ⟨by decide, fun z => absurd z.1 (by decide)⟩)]; exact hk k q))) rfl rfl (Nat.le_of_ble_eq_true rfl) (o81 hT) dX12_leaderLeads_17 (fun v' h' e' => ?_)
  simp only [f_logs_o _ (show (82 : Nat) ≠ 121 ∧ ¬ ((82 : Nat) = 81 ∧ i.toNat = 55) from ⟨by decide, fun z => absurd z.1 (by decide)⟩), f_logs_o _ (show (83 : Nat) ≠ 121 ∧ ¬ ((83 : Nat) = 81 ∧ i.toNat = 55) from ⟨by decide, fun z => absurd z.1 (by decide)⟩), f_logs_o _ (show (84 : Nat) ≠ 121 ∧ ¬ ((84 : Nat) = 81 ∧ i.toNat = 55) from ⟨by decide, fun z => absurd z.1 (by decide)⟩), f_body_o (show (82 : Nat) ≠ 121 ∧ ¬ ((82 : Nat) = 81 ∧ i.toNat = 55) from ⟨by decide, fun z => absurd z.1 (by decide)⟩), f_body_o (show (83 : Nat) ≠ 121 ∧ ¬ ((83 : Nat) = 81 ∧ i.toNat = 55) from ⟨by decide, fun z => absurd z.1 (by decide)⟩), f_body_o (show (84 : Nat) ≠ 121 ∧ ¬ ((84 : Nat) = 81 ∧ i.toNat = 55) from ⟨by decide, fun z => absurd z.1 (by decide)⟩)] at e'
  obtain ⟨rfl, rfl⟩ := e'
  refine G_iadd dX12_leaderLeads_20 ?_
  refine G_iretZ rfl dX12_leaderLeads_21 ?_
  exact ⟨rfl, by rw [eL]; show _ = f_logs (f_body h 30) _; rw [f_logs_app]⟩

theorem m_leadsOf (d : Nat) (τ : TT) (h : HT) (hT : TK τ) (i x : Int) (hi : 0 ≤ i ∧ i < 15) (hra : 0 ≤ h 81 55 ∧ h 81 55 ≤ 500) (hk : ∀ k : Nat, k < 15 → 0 ≤ h 82 k ∧ h 82 k ≤ 4) : S_ mX12_leadsOf (d + 5) 0 0 [.inr (some 81), .inl i, .inl x] τ h (Zi τ fun v h' => v = lV (h 82 i.toNat) (h 83 i.toNat) (h 84 i.toNat) x ∧ h' = f_logs h (lL (h 82 i.toNat))) := by
  refine S_go (k := 0) (ls := [some (.inr (some 81)), some (.inl i), some (.inl x)]) (by decide) rfl (Nat.le_of_ble_eq_true rfl) rfl ?_
  refine G_aload_n (i := 0) dX12_leadsOf_0 rfl rfl ?_
  refine G_getR fX12_16 rfl dX12_leadsOf_1 (o81 hT) (r81_2 hT) ?_
  refine G_iload_n (i := 1) dX12_leadsOf_4 rfl rfl ?_
  refine G_iald (v := h 82 ((i).toNat)) dX12_leadsOf_5 (o82 hT) (by omega) rfl ?_
  have e_ := hk i.toNat (by omega)
  refine G_iconst dX12_leadsOf_6 ?_
  refine G_icmp_ne (tgt := 17) dX12_leadsOf_7 (by decide) (by omega) (by decide) (fun c_1 => ?_) (fun c_1 => ?_)
  · refine G_aload_n (i := 0) dX12_leadsOf_17 rfl rfl ?_
    refine G_getR fX12_16 rfl dX12_leadsOf_18 (o81 hT) (r81_2 hT) ?_
    refine G_iload_n (i := 1) dX12_leadsOf_21 rfl rfl ?_
    refine G_iald (v := h 82 ((i).toNat)) dX12_leadsOf_22 (o82 hT) (by omega) rfl ?_
    have e_ := hk i.toNat (by omega)
    refine G_iconst dX12_leadsOf_23 ?_
    refine G_icmp_ne (tgt := 41) dX12_leadsOf_24 (by decide) (by omega) (by decide) (fun c_2 => ?_) (fun c_2 => ?_)
    · refine G_aload_n (i := 0) dX12_leadsOf_41 rfl rfl ?_
      refine G_iload_n (i := 1) dX12_leadsOf_42 rfl rfl ?_
      refine G_iload_n (i := 2) dX12_leadsOf_43 rfl rfl ?_
      refine G_cVi (as := [.inl i, .inl x]) qX12_329 (m_plainLeads (d + 1) τ h hT i x hi (by first | omega | (simp only [f_body_n, f_logs_n]; have := pL_n (h 82 i.toNat); have := lL_n (h 82 i.toNat); have := gL_n (h 82 i.toNat); omega) | (simp only [f_body_n, f_logs_n, f_body_o (show (82 : Nat) ≠ 121 ∧ ¬ ((82 : Nat) = 81 ∧ i.toNat = 55) by decide)]; omega)) (by intro k q; first | exact hk k q | (simp only [f_logs_o _ (show (82 : Nat) ≠ 121 ∧ ¬ ((82 : Nat) = 81 ∧ k = 55) from ⟨by decide, fun z => absurd z.1 (by decide)⟩), f_body_o (show (82 : Nat) ≠ 121 ∧ ¬ ((82 : Nat) = 81 ∧ k = 55) from ⟨by decide, fun z => absurd z.1 (by decide)⟩)]; exact hk k q))) rfl rfl (Nat.le_of_ble_eq_true rfl) (o81 hT) dX12_leadsOf_44 (fun v' h' e' => ?_)
      obtain ⟨rfl, rfl⟩ := e'
      refine G_iretZ rfl dX12_leadsOf_47 ?_
      unfold lV lL; (repeat (first | rw [if_pos (by omega)] | rw [if_neg (by omega)])); exact ⟨rfl, rfl⟩
    · refine G_aload_n (i := 0) dX12_leadsOf_27 rfl rfl ?_
      refine G_bipush dX12_leadsOf_28 (by decide) ?_
      refine G_cVv (as := [.inl 41]) qX12_320 (m_body (d + 4) τ h hT 41 (by first | omega | (simp only [f_body_n, f_logs_n]; omega) | (simp only [f_body_n, f_logs_n, List.length_cons, List.length_nil]; omega))) rfl rfl (Nat.le_of_ble_eq_true rfl) (o81 hT) dX12_leadsOf_30 (fun h' e' => ?_)
      subst e'
      refine G_aload_n (i := 0) dX12_leadsOf_33 rfl rfl ?_
      refine G_iload_n (i := 1) dX12_leadsOf_34 rfl rfl ?_
      refine G_iload_n (i := 2) dX12_leadsOf_35 rfl rfl ?_
      refine G_cVi (as := [.inl i, .inl x]) qX12_332 (m_leaderLeads d τ (f_body h 41) hT i x hi (by first | omega | (simp only [f_body_n, f_logs_n]; have := pL_n (h 82 i.toNat); have := lL_n (h 82 i.toNat); have := gL_n (h 82 i.toNat); omega) | (simp only [f_body_n, f_logs_n, f_body_o (show (82 : Nat) ≠ 121 ∧ ¬ ((82 : Nat) = 81 ∧ i.toNat = 55) by decide)]; omega)) (by intro k q; first | exact hk k q | (simp only [f_logs_o _ (show (82 : Nat) ≠ 121 ∧ ¬ ((82 : Nat) = 81 ∧ k = 55) from ⟨by decide, fun z => absurd z.1 (by decide)⟩), f_body_o (show (82 : Nat) ≠ 121 ∧ ¬ ((82 : Nat) = 81 ∧ k = 55) from ⟨by decide, fun z => absurd z.1 (by decide)⟩)]; exact hk k q))) rfl rfl (Nat.le_of_ble_eq_true rfl) (o81 hT) dX12_leadsOf_36 (fun v' h' e' => ?_)
      simp only [f_logs_o _ (show (82 : Nat) ≠ 121 ∧ ¬ ((82 : Nat) = 81 ∧ i.toNat = 55) from ⟨by decide, fun z => absurd z.1 (by decide)⟩), f_logs_o _ (show (83 : Nat) ≠ 121 ∧ ¬ ((83 : Nat) = 81 ∧ i.toNat = 55) from ⟨by decide, fun z => absurd z.1 (by decide)⟩), f_logs_o _ (show (84 : Nat) ≠ 121 ∧ ¬ ((84 : Nat) = 81 ∧ i.toNat = 55) from ⟨by decide, fun z => absurd z.1 (by decide)⟩), f_body_o (show (82 : Nat) ≠ 121 ∧ ¬ ((82 : Nat) = 81 ∧ i.toNat = 55) from ⟨by decide, fun z => absurd z.1 (by decide)⟩), f_body_o (show (83 : Nat) ≠ 121 ∧ ¬ ((83 : Nat) = 81 ∧ i.toNat = 55) from ⟨by decide, fun z => absurd z.1 (by decide)⟩), f_body_o (show (84 : Nat) ≠ 121 ∧ ¬ ((84 : Nat) = 81 ∧ i.toNat = 55) from ⟨by decide, fun z => absurd z.1 (by decide)⟩)] at e'
      obtain ⟨rfl, rfl⟩ := e'
      refine G_ineg dX12_leadsOf_39 ?_
      refine G_iretZ rfl dX12_leadsOf_40 ?_
      unfold lV lL; (repeat (first | rw [if_pos (by omega)] | rw [if_neg (by omega)])); exact ⟨rfl, rfl⟩
  · refine G_aload_n (i := 0) dX12_leadsOf_10 rfl rfl ?_
    refine G_iload_n (i := 1) dX12_leadsOf_11 rfl rfl ?_
    refine G_iload_n (i := 2) dX12_leadsOf_12 rfl rfl ?_
    refine G_cVi (as := [.inl i, .inl x]) qX12_332 (m_leaderLeads d τ h hT i x hi (by first | omega | (simp only [f_body_n, f_logs_n]; have := pL_n (h 82 i.toNat); have := lL_n (h 82 i.toNat); have := gL_n (h 82 i.toNat); omega) | (simp only [f_body_n, f_logs_n, f_body_o (show (82 : Nat) ≠ 121 ∧ ¬ ((82 : Nat) = 81 ∧ i.toNat = 55) by decide)]; omega)) (by intro k q; first | exact hk k q | (simp only [f_logs_o _ (show (82 : Nat) ≠ 121 ∧ ¬ ((82 : Nat) = 81 ∧ k = 55) from ⟨by decide, fun z => absurd z.1 (by decide)⟩), f_body_o (show (82 : Nat) ≠ 121 ∧ ¬ ((82 : Nat) = 81 ∧ k = 55) from ⟨by decide, fun z => absurd z.1 (by decide)⟩)]; exact hk k q))) rfl rfl (Nat.le_of_ble_eq_true rfl) (o81 hT) dX12_leadsOf_13 (fun v' h' e' => ?_)
    obtain ⟨rfl, rfl⟩ := e'
    refine G_iretZ rfl dX12_leadsOf_16 ?_
    unfold lV lL; (repeat (first | rw [if_pos (by omega)] | rw [if_neg (by omega)])); exact ⟨rfl, rfl⟩

theorem m_plainRests (d : Nat) (τ : TT) (h : HT) (hT : TK τ) (i x : Int) (hi : 0 ≤ i ∧ i < 15) (hra : 0 ≤ h 81 55 ∧ h 81 55 ≤ 400) (hk : ∀ k : Nat, k < 15 → 0 ≤ h 82 k ∧ h 82 k ≤ 4) : S_ mX12_plainRests (d + 6) 0 0 [.inr (some 81), .inl i, .inl x] τ h (Zi τ fun v h' => v = qV (h 82 i.toNat) (h 83 i.toNat) (h 84 i.toNat) i x ∧ h' = f_logs h (qL (h 82 i.toNat))) := by
  refine S_go (k := 0) (ls := [some (.inr (some 81)), some (.inl i), some (.inl x)]) (by decide) rfl (Nat.le_of_ble_eq_true rfl) rfl ?_
  refine G_aload_n (i := 0) dX12_plainRests_0 rfl rfl ?_
  refine G_bipush dX12_plainRests_1 (by decide) ?_
  refine G_cVv (as := [.inl 12]) qX12_320 (m_body (d + 5) τ h hT 12 (by first | omega | (simp only [f_body_n, f_logs_n]; omega) | (simp only [f_body_n, f_logs_n, List.length_cons, List.length_nil]; omega))) rfl rfl (Nat.le_of_ble_eq_true rfl) (o81 hT) dX12_plainRests_3 (fun h' e' => ?_)
  subst e'
  refine G_aload_n (i := 0) dX12_plainRests_6 rfl rfl ?_
  refine G_iload_n (i := 1) dX12_plainRests_7 rfl rfl ?_
  refine G_iload_n (i := 2) dX12_plainRests_8 rfl rfl ?_
  refine G_cVi (as := [.inl i, .inl x]) qX12_335 (m_leadsOf d τ (f_body h 12) hT i x hi (by first | omega | (simp only [f_body_n, f_logs_n]; have := pL_n (h 82 i.toNat); have := lL_n (h 82 i.toNat); have := gL_n (h 82 i.toNat); omega) | (simp only [f_body_n, f_logs_n, f_body_o (show (82 : Nat) ≠ 121 ∧ ¬ ((82 : Nat) = 81 ∧ i.toNat = 55) by decide)]; omega)) (by intro k q; first | exact hk k q | (simp only [f_logs_o _ (show (82 : Nat) ≠ 121 ∧ ¬ ((82 : Nat) = 81 ∧ k = 55) from ⟨by decide, fun z => absurd z.1 (by decide)⟩), f_body_o (show (82 : Nat) ≠ 121 ∧ ¬ ((82 : Nat) = 81 ∧ k = 55) from ⟨by decide, fun z => absurd z.1 (by decide)⟩)]; exact hk k q))) rfl rfl (Nat.le_of_ble_eq_true rfl) (o81 hT) dX12_plainRests_9 (fun v' h' e' => ?_)
  simp only [f_logs_o _ (show (82 : Nat) ≠ 121 ∧ ¬ ((82 : Nat) = 81 ∧ i.toNat = 55) from ⟨by decide, fun z => absurd z.1 (by decide)⟩), f_logs_o _ (show (83 : Nat) ≠ 121 ∧ ¬ ((83 : Nat) = 81 ∧ i.toNat = 55) from ⟨by decide, fun z => absurd z.1 (by decide)⟩), f_logs_o _ (show (84 : Nat) ≠ 121 ∧ ¬ ((84 : Nat) = 81 ∧ i.toNat = 55) from ⟨by decide, fun z => absurd z.1 (by decide)⟩), f_body_o (show (82 : Nat) ≠ 121 ∧ ¬ ((82 : Nat) = 81 ∧ i.toNat = 55) from ⟨by decide, fun z => absurd z.1 (by decide)⟩), f_body_o (show (83 : Nat) ≠ 121 ∧ ¬ ((83 : Nat) = 81 ∧ i.toNat = 55) from ⟨by decide, fun z => absurd z.1 (by decide)⟩), f_body_o (show (84 : Nat) ≠ 121 ∧ ¬ ((84 : Nat) = 81 ∧ i.toNat = 55) from ⟨by decide, fun z => absurd z.1 (by decide)⟩)] at e'
  obtain ⟨rfl, rfl⟩ := e'
  refine G_iload_n (i := 1) dX12_plainRests_12 rfl rfl ?_
  refine G_ixor dX12_plainRests_13 ?_
  refine G_iretZ rfl dX12_plainRests_14 ?_
  exact ⟨rfl, rfl⟩

theorem m_restsOf (d : Nat) (τ : TT) (h : HT) (hT : TK τ) (i x : Int) (hi : 0 ≤ i ∧ i < 15) (hra : 0 ≤ h 81 55 ∧ h 81 55 ≤ 300) (hk : ∀ k : Nat, k < 15 → 0 ≤ h 82 k ∧ h 82 k ≤ 4) : S_ mX12_restsOf (d + 7) 0 0 [.inr (some 81), .inl i, .inl x] τ h (Zi τ fun v h' => v = sV (h 82 i.toNat) (h 83 i.toNat) (h 84 i.toNat) i x ∧ h' = f_logs h (sL (h 82 i.toNat))) := by
  refine S_go (k := 1) (ls := [some (.inr (some 81)), some (.inl i), some (.inl x), none]) (by decide) rfl (Nat.le_of_ble_eq_true rfl) rfl ?_
  refine G_aload_n (i := 0) dX12_restsOf_0 rfl rfl ?_
  refine G_getR fX12_16 rfl dX12_restsOf_1 (o81 hT) (r81_2 hT) ?_
  refine G_iload_n (i := 1) dX12_restsOf_4 rfl rfl ?_
  refine G_iald (v := h 82 ((i).toNat)) dX12_restsOf_5 (o82 hT) (by omega) rfl ?_
  have e_ := hk i.toNat (by omega)
  refine G_iconst dX12_restsOf_6 ?_
  refine G_icmp_eq (tgt := 17) dX12_restsOf_7 (by decide) (by omega) (by decide) (fun c_1 => ?_) (fun c_1 => ?_)
  · refine G_aload_n (i := 0) dX12_restsOf_17 rfl rfl ?_
    refine G_bipush dX12_restsOf_18 (by decide) ?_
    refine G_cVv (as := [.inl 50]) qX12_320 (m_body (d + 6) τ h hT 50 (by first | omega | (simp only [f_body_n, f_logs_n]; omega) | (simp only [f_body_n, f_logs_n, List.length_cons, List.length_nil]; omega))) rfl rfl (Nat.le_of_ble_eq_true rfl) (o81 hT) dX12_restsOf_20 (fun h' e' => ?_)
    subst e'
    refine G_aload_n (i := 0) dX12_restsOf_23 rfl rfl ?_
    refine G_iload_n (i := 1) dX12_restsOf_24 rfl rfl ?_
    refine G_iload_n (i := 2) dX12_restsOf_25 rfl rfl ?_
    refine G_cVi (as := [.inl i, .inl x]) qX12_335 (m_leadsOf (d + 1) τ (f_body h 50) hT i x hi (by first | omega | (simp only [f_body_n, f_logs_n]; have := pL_n (h 82 i.toNat); have := lL_n (h 82 i.toNat); have := gL_n (h 82 i.toNat); omega) | (simp only [f_body_n, f_logs_n, f_body_o (show (82 : Nat) ≠ 121 ∧ ¬ ((82 : Nat) = 81 ∧ i.toNat = 55) by decide)]; omega)) (by intro k q; first | exact hk k q | (simp only [f_logs_o _ (show (82 : Nat) ≠ 121 ∧ ¬ ((82 : Nat) = 81 ∧ k = 55) from ⟨by decide, fun z => absurd z.1 (by decide)⟩), f_body_o (show (82 : Nat) ≠ 121 ∧ ¬ ((82 : Nat) = 81 ∧ k = 55) from ⟨by decide, fun z => absurd z.1 (by decide)⟩)]; exact hk k q))) rfl rfl (Nat.le_of_ble_eq_true rfl) (o81 hT) dX12_restsOf_26 (fun v' h' e' => ?_)
    simp only [f_logs_o _ (show (82 : Nat) ≠ 121 ∧ ¬ ((82 : Nat) = 81 ∧ i.toNat = 55) from ⟨by decide, fun z => absurd z.1 (by decide)⟩), f_logs_o _ (show (83 : Nat) ≠ 121 ∧ ¬ ((83 : Nat) = 81 ∧ i.toNat = 55) from ⟨by decide, fun z => absurd z.1 (by decide)⟩), f_logs_o _ (show (84 : Nat) ≠ 121 ∧ ¬ ((84 : Nat) = 81 ∧ i.toNat = 55) from ⟨by decide, fun z => absurd z.1 (by decide)⟩), f_body_o (show (82 : Nat) ≠ 121 ∧ ¬ ((82 : Nat) = 81 ∧ i.toNat = 55) from ⟨by decide, fun z => absurd z.1 (by decide)⟩), f_body_o (show (83 : Nat) ≠ 121 ∧ ¬ ((83 : Nat) = 81 ∧ i.toNat = 55) from ⟨by decide, fun z => absurd z.1 (by decide)⟩), f_body_o (show (84 : Nat) ≠ 121 ∧ ¬ ((84 : Nat) = 81 ∧ i.toNat = 55) from ⟨by decide, fun z => absurd z.1 (by decide)⟩)] at e'
    obtain ⟨rfl, rfl⟩ := e'
    refine G_istore_n (i := 3) (ls' := [some (.inr (some 81)), some (.inl i), some (.inl x), some (.inl (lV (h 82 i.toNat) (h 83 i.toNat) (h 84 i.toNat) x))]) dX12_restsOf_29 rfl (by decide) rfl ?_
    refine G_iload_n (i := 3) dX12_restsOf_30 rfl rfl ?_
    refine G_aload_n (i := 0) dX12_restsOf_31 rfl rfl ?_
    refine G_iload_n (i := 1) dX12_restsOf_32 rfl rfl ?_
    refine G_iload_n (i := 2) dX12_restsOf_33 rfl rfl ?_
    refine G_iconst dX12_restsOf_34 ?_
    refine G_isub dX12_restsOf_35 ?_
    refine G_cVi (as := [.inl i, .inl (x - 1)]) qX12_338 (m_plainRests d τ (f_logs (f_body h 50) (lL (h 82 i.toNat))) hT i (x - 1) hi (by first | omega | (simp only [f_body_n, f_logs_n]; have := pL_n (h 82 i.toNat); have := lL_n (h 82 i.toNat); have := gL_n (h 82 i.toNat); omega) | (simp only [f_body_n, f_logs_n, f_body_o (show (82 : Nat) ≠ 121 ∧ ¬ ((82 : Nat) = 81 ∧ i.toNat = 55) by decide)]; omega)) (by intro k q; first | exact hk k q | (simp only [f_logs_o _ (show (82 : Nat) ≠ 121 ∧ ¬ ((82 : Nat) = 81 ∧ k = 55) from ⟨by decide, fun z => absurd z.1 (by decide)⟩), f_body_o (show (82 : Nat) ≠ 121 ∧ ¬ ((82 : Nat) = 81 ∧ k = 55) from ⟨by decide, fun z => absurd z.1 (by decide)⟩)]; exact hk k q))) rfl rfl (Nat.le_of_ble_eq_true rfl) (o81 hT) dX12_restsOf_36 (fun v' h' e' => ?_)
    simp only [f_logs_o _ (show (82 : Nat) ≠ 121 ∧ ¬ ((82 : Nat) = 81 ∧ i.toNat = 55) from ⟨by decide, fun z => absurd z.1 (by decide)⟩), f_logs_o _ (show (83 : Nat) ≠ 121 ∧ ¬ ((83 : Nat) = 81 ∧ i.toNat = 55) from ⟨by decide, fun z => absurd z.1 (by decide)⟩), f_logs_o _ (show (84 : Nat) ≠ 121 ∧ ¬ ((84 : Nat) = 81 ∧ i.toNat = 55) from ⟨by decide, fun z => absurd z.1 (by decide)⟩), f_body_o (show (82 : Nat) ≠ 121 ∧ ¬ ((82 : Nat) = 81 ∧ i.toNat = 55) from ⟨by decide, fun z => absurd z.1 (by decide)⟩), f_body_o (show (83 : Nat) ≠ 121 ∧ ¬ ((83 : Nat) = 81 ∧ i.toNat = 55) from ⟨by decide, fun z => absurd z.1 (by decide)⟩), f_body_o (show (84 : Nat) ≠ 121 ∧ ¬ ((84 : Nat) = 81 ∧ i.toNat = 55) from ⟨by decide, fun z => absurd z.1 (by decide)⟩)] at e'
    obtain ⟨rfl, rfl⟩ := e'
    refine G_iadd dX12_restsOf_39 ?_
    refine G_iretZ rfl dX12_restsOf_40 ?_
    unfold sV sL; (repeat (first | rw [if_pos (by omega)] | rw [if_neg (by omega)])); first | exact ⟨rfl, rfl⟩ | exact ⟨rfl, by show _ = f_logs (f_body h 50) _; rw [f_logs_app]⟩
  · refine G_aload_n (i := 0) dX12_restsOf_10 rfl rfl ?_
    refine G_iload_n (i := 1) dX12_restsOf_11 rfl rfl ?_
    refine G_iload_n (i := 2) dX12_restsOf_12 rfl rfl ?_
    refine G_cVi (as := [.inl i, .inl x]) qX12_338 (m_plainRests d τ h hT i x hi (by first | omega | (simp only [f_body_n, f_logs_n]; have := pL_n (h 82 i.toNat); have := lL_n (h 82 i.toNat); have := gL_n (h 82 i.toNat); omega) | (simp only [f_body_n, f_logs_n, f_body_o (show (82 : Nat) ≠ 121 ∧ ¬ ((82 : Nat) = 81 ∧ i.toNat = 55) by decide)]; omega)) (by intro k q; first | exact hk k q | (simp only [f_logs_o _ (show (82 : Nat) ≠ 121 ∧ ¬ ((82 : Nat) = 81 ∧ k = 55) from ⟨by decide, fun z => absurd z.1 (by decide)⟩), f_body_o (show (82 : Nat) ≠ 121 ∧ ¬ ((82 : Nat) = 81 ∧ k = 55) from ⟨by decide, fun z => absurd z.1 (by decide)⟩)]; exact hk k q))) rfl rfl (Nat.le_of_ble_eq_true rfl) (o81 hT) dX12_restsOf_13 (fun v' h' e' => ?_)
    obtain ⟨rfl, rfl⟩ := e'
    refine G_iretZ rfl dX12_restsOf_16 ?_
    unfold sV sL; (repeat (first | rw [if_pos (by omega)] | rw [if_neg (by omega)])); first | exact ⟨rfl, rfl⟩ | exact ⟨rfl, by show _ = f_logs (f_body h 50) _; rw [f_logs_app]⟩

def f_actV (h : HT) (i a x : Int) : Int := if ¬ ((0 ≤ i ∧ i ≤ h 81 0 - 1) ∧ (0 ≤ a ∧ a ≤ 2)) then 0 else if a = 0 then gV (h 82 i.toNat) (h 83 i.toNat) x else if a = 1 then lV (h 82 i.toNat) (h 83 i.toNat) (h 84 i.toNat) x else sV (h 82 i.toNat) (h 83 i.toNat) (h 84 i.toNat) i x
def f_actL (h : HT) (i a : Int) : List Int := if ¬ ((0 ≤ i ∧ i ≤ h 81 0 - 1) ∧ (0 ≤ a ∧ a ≤ 2)) then [] else if a = 0 then gL (h 82 i.toNat) else if a = 1 then lL (h 82 i.toNat) else sL (h 82 i.toNat)
theorem m_act_5 (d : Nat) (τ : TT) (h : HT) (hT : TK τ) (i a x : Int) (r_i : -2147483648 ≤ i ∧ i ≤ 2147483647) (r_a : -2147483648 ≤ a ∧ a ≤ 2147483647) (hra : h 81 55 = 0) (hp : 0 ≤ h 81 0 ∧ h 81 0 ≤ 15) (hk : ∀ k : Nat, k < 15 → 0 ≤ h 82 k ∧ h 82 k ≤ 4) : G_ mX12_act (d + 8) 0 0 5 [some (.inr (some 81)), some (.inl i), some (.inl a), some (.inl x)] [] τ h (Zi τ fun v h' => v = f_actV h i a x ∧ h' = f_logs h (f_actL h i a)) := by
  refine G_aload_n (i := 0) dX12_act_5 rfl rfl ?_
  refine G_iload_n (i := 1) dX12_act_6 rfl rfl ?_
  refine G_cVq (as := [.inl i]) qX12_203 (m_isPerson (d + 6) τ h hT i (by omega) (by first | omega | grind [hs_, hf_])) rfl rfl (Nat.le_of_ble_eq_true rfl) (o81 hT) dX12_act_7 ?_
  refine G_ifb_eq (tgt := 23) dX12_act_10 (by decide) (fun c_1 => ?_) (fun c_1 => ?_)
  · refine G_iconst dX12_act_23 ?_
    refine G_iretZ rfl dX12_act_24 ?_
    unfold f_actV f_actL; (repeat (first | rw [if_pos (by omega)] | rw [if_neg (by omega)])); exact ⟨rfl, rfl⟩
  · refine G_aload_n (i := 0) dX12_act_13 rfl rfl ?_
    refine G_iload_n (i := 2) dX12_act_14 rfl rfl ?_
    refine G_iconst dX12_act_15 ?_
    refine G_iconst dX12_act_16 ?_
    refine G_cVq (as := [.inl a, .inl 0, .inl 2]) qX12_195 (m_in (d + 7) τ _ 81 a 0 2 (by omega) (by decide) (by decide)) rfl rfl (Nat.le_of_ble_eq_true rfl) (o81 hT) dX12_act_17 ?_
    refine G_ifb_ne (tgt := 25) dX12_act_20 (by decide) (fun c_2 => ?_) (fun c_2 => ?_)
    · refine G_iload_n (i := 2) dX12_act_25 rfl rfl ?_
      refine G_if_ne (tgt := 38) dX12_act_26 (by decide) (by omega) (fun c_3 => ?_) (fun c_3 => ?_)
      · refine G_iload_n (i := 2) dX12_act_38 rfl rfl ?_
        refine G_iconst dX12_act_39 ?_
        refine G_icmp_ne (tgt := 52) dX12_act_40 (by decide) (by omega) (by decide) (fun c_4 => ?_) (fun c_4 => ?_)
        · refine G_aload_n (i := 0) dX12_act_52 rfl rfl ?_
          refine G_iload_n (i := 1) dX12_act_53 rfl rfl ?_
          refine G_iload_n (i := 3) dX12_act_54 rfl rfl ?_
          refine G_cVi (as := [.inl i, .inl x]) qX12_341 (m_restsOf d τ h hT i x (by omega) (by first | omega | (simp only [f_body_n, f_logs_n]; have := pL_n (h 82 i.toNat); have := lL_n (h 82 i.toNat); have := gL_n (h 82 i.toNat); omega) | (simp only [f_body_n, f_logs_n, f_body_o (show (82 : Nat) ≠ 121 ∧ ¬ ((82 : Nat) = 81 ∧ i.toNat = 55) by decide)]; omega)) (by intro k q; first | exact hk k q | (simp only [f_logs_o _ (show (82 : Nat) ≠ 121 ∧ ¬ ((82 : Nat) = 81 ∧ k = 55) from ⟨by decide, fun z => absurd z.1 (by decide)⟩), f_body_o (show (82 : Nat) ≠ 121 ∧ ¬ ((82 : Nat) = 81 ∧ k = 55) from ⟨by decide, fun z => absurd z.1 (by decide)⟩)]; exact hk k q))) rfl rfl (Nat.le_of_ble_eq_true rfl) (o81 hT) dX12_act_55 (fun v' h' e' => ?_)
          obtain ⟨rfl, rfl⟩ := e'
          refine G_iretZ rfl dX12_act_58 ?_
          unfold f_actV f_actL; (repeat (first | rw [if_pos (by omega)] | rw [if_neg (by omega)])); exact ⟨rfl, rfl⟩
        · refine G_aload_n (i := 0) dX12_act_43 rfl rfl ?_
          refine G_iload_n (i := 1) dX12_act_44 rfl rfl ?_
          refine G_iload_n (i := 3) dX12_act_45 rfl rfl ?_
          refine G_cVi (as := [.inl i, .inl x]) qX12_335 (m_leadsOf (d + 2) τ h hT i x (by omega) (by first | omega | (simp only [f_body_n, f_logs_n]; have := pL_n (h 82 i.toNat); have := lL_n (h 82 i.toNat); have := gL_n (h 82 i.toNat); omega) | (simp only [f_body_n, f_logs_n, f_body_o (show (82 : Nat) ≠ 121 ∧ ¬ ((82 : Nat) = 81 ∧ i.toNat = 55) by decide)]; omega)) (by intro k q; first | exact hk k q | (simp only [f_logs_o _ (show (82 : Nat) ≠ 121 ∧ ¬ ((82 : Nat) = 81 ∧ k = 55) from ⟨by decide, fun z => absurd z.1 (by decide)⟩), f_body_o (show (82 : Nat) ≠ 121 ∧ ¬ ((82 : Nat) = 81 ∧ k = 55) from ⟨by decide, fun z => absurd z.1 (by decide)⟩)]; exact hk k q))) rfl rfl (Nat.le_of_ble_eq_true rfl) (o81 hT) dX12_act_46 (fun v' h' e' => ?_)
          obtain ⟨rfl, rfl⟩ := e'
          refine G_goto (tgt := 58) dX12_act_49 (by decide) ?_
          refine G_iretZ rfl dX12_act_58 ?_
          unfold f_actV f_actL; (repeat (first | rw [if_pos (by omega)] | rw [if_neg (by omega)])); exact ⟨rfl, rfl⟩
      · refine G_aload_n (i := 0) dX12_act_29 rfl rfl ?_
        refine G_iload_n (i := 1) dX12_act_30 rfl rfl ?_
        refine G_iload_n (i := 3) dX12_act_31 rfl rfl ?_
        refine G_cVi (as := [.inl i, .inl x]) qX12_326 (m_greetsOf (d + 5) τ h hT i x (by omega) (by first | omega | (simp only [f_body_n, f_logs_n]; have := pL_n (h 82 i.toNat); have := lL_n (h 82 i.toNat); have := gL_n (h 82 i.toNat); omega) | (simp only [f_body_n, f_logs_n, f_body_o (show (82 : Nat) ≠ 121 ∧ ¬ ((82 : Nat) = 81 ∧ i.toNat = 55) by decide)]; omega)) (by intro k q; first | exact hk k q | (simp only [f_logs_o _ (show (82 : Nat) ≠ 121 ∧ ¬ ((82 : Nat) = 81 ∧ k = 55) from ⟨by decide, fun z => absurd z.1 (by decide)⟩), f_body_o (show (82 : Nat) ≠ 121 ∧ ¬ ((82 : Nat) = 81 ∧ k = 55) from ⟨by decide, fun z => absurd z.1 (by decide)⟩)]; exact hk k q))) rfl rfl (Nat.le_of_ble_eq_true rfl) (o81 hT) dX12_act_32 (fun v' h' e' => ?_)
        obtain ⟨rfl, rfl⟩ := e'
        refine G_goto (tgt := 58) dX12_act_35 (by decide) ?_
        refine G_iretZ rfl dX12_act_58 ?_
        unfold f_actV f_actL; (repeat (first | rw [if_pos (by omega)] | rw [if_neg (by omega)])); exact ⟨rfl, rfl⟩
    · refine G_iconst dX12_act_23 ?_
      refine G_iretZ rfl dX12_act_24 ?_
      unfold f_actV f_actL; (repeat (first | rw [if_pos (by omega)] | rw [if_neg (by omega)])); exact ⟨rfl, rfl⟩

theorem m_act (d : Nat) (τ : TT) (h : HT) (hT : TK τ) (i a x : Int) (r_i : -2147483648 ≤ i ∧ i ≤ 2147483647) (r_a : -2147483648 ≤ a ∧ a ≤ 2147483647) (hp : 0 ≤ h 81 0 ∧ h 81 0 ≤ 15) (hk : ∀ k : Nat, k < 15 → 0 ≤ h 82 k ∧ h 82 k ≤ 4) : S_ mX12_act (d + 8) 0 0 [.inr (some 81), .inl i, .inl a, .inl x] τ h (Zi τ fun v h' => v = f_actV h i a x ∧ h' = f_logs (hs_ h 81 55 0) (f_actL h i a)) := by
  refine S_go (k := 0) (ls := [some (.inr (some 81)), some (.inl i), some (.inl a), some (.inl x)]) (by decide) rfl (Nat.le_of_ble_eq_true rfl) rfl ?_
  refine G_aload_n (i := 0) dX12_act_0 rfl rfl ?_
  refine G_iconst dX12_act_1 ?_
  refine G_putI fX12_177 dX12_act_2 (o81 hT) ?_
  refine G_mono ?_ (m_act_5 d τ (hs_ h 81 55 0) hT i a x r_i r_a (by simp [hs_]) (by simp only [hs_]; simpa using hp) (by simp only [hs_]; simpa using hk))
  rintro r τ' h' ⟨q1, v, q2, rfl, rfl⟩
  exact ⟨q1, _, q2, by simp [f_actV, hs_], by simp [f_actL, hs_]⟩

