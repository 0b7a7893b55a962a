/-! the reference: passes and walks -/
def f_passW (h : HT) (p q a b w : Int) : HT :=
  hs_ (hs_ (hs_ (hs_ (hs_ (hs_ (hs_ (hs_ (hs_ h 88 a.toNat (h 88 a.toNat - 1)) 88 b.toNat ((hs_ h 88 a.toNat (h 88 a.toNat - 1)) 88 b.toNat - 2)) 86 p.toNat (h 86 q.toNat)) 86 q.toNat (h 86 p.toNat)) 85 p.toNat (h 85 q.toNat)) 85 q.toNat (h 85 p.toNat)) 94 p.toNat (w + 1)) 93 (h 81 14).toNat (10 * p + w)) 81 14 (h 81 14 + 1)
def f_aft (n p : Int) : Int := if p + 1 = n then 0 else p + 1
def f_pass (h : HT) (p w : Int) : Int × HT := if ¬ (0 ≤ p ∧ p ≤ h 81 1 - 1) then (-1, h) else if ¬ (0 ≤ w ∧ w ≤ 1) then (-2, h) else if h 81 11 = 0 then (-3, h) else
  if h 88 (if w = 0 then h 86 p.toNat else h 86 (f_aft (h 81 1) p).toNat).toNat < 1 ∨ h 88 (if w = 0 then h 86 (f_aft (h 81 1) p).toNat else h 86 p.toNat).toNat < 2 then (-3, h) else
  if h 81 14 = 300 then (-4, h) else
  (h 81 14 + 1, f_passW h p (f_aft (h 81 1) p) (if w = 0 then h 86 p.toNat else h 86 (f_aft (h 81 1) p).toNat) (if w = 0 then h 86 (f_aft (h 81 1) p).toNat else h 86 p.toNat) w)
theorem m_pass (d : Nat) (τ : TT) (h : HT) (hT : TK τ) (p w : Int) (r_p : -2147483648 ≤ p ∧ p ≤ 2147483647) (r_w : -2147483648 ≤ w ∧ w ≤ 2147483647) (hn : 0 ≤ h 81 1 ∧ h 81 1 ≤ 9) (hd : 0 ≤ h 81 11 ∧ h 81 11 ≤ 1) (hst : 0 ≤ h 81 14 ∧ h 81 14 ≤ 300) (hh : ∀ k : Nat, (k : Int) < h 81 1 → 0 ≤ h 86 k ∧ h 86 k < h 81 1) (hl : ∀ k : Nat, k < 9 → 0 ≤ h 88 k ∧ h 88 k ≤ 99999) : S_ mX12_pass (d + 2) 0 0 [.inr (some 81), .inl p, .inl w] τ h (Zi τ fun v h' => v = (f_pass h p w).1 ∧ h' = (f_pass h p w).2) := by
  refine S_go (k := 5) (ls := [some (.inr (some 81)), some (.inl p), some (.inl w), none, none, none, none, none]) (by decide) rfl (Nat.le_of_ble_eq_true rfl) rfl ?_
  refine G_aload_n (i := 0) dX12_pass_0 rfl rfl ?_
  refine G_iload_n (i := 1) dX12_pass_1 rfl rfl ?_
  refine G_cVq (as := [.inl p]) qX12_199 (m_isPlace d τ h hT p (by omega) (by first | omega | grind [hs_, hf_])) rfl rfl (Nat.le_of_ble_eq_true rfl) (o81 hT) dX12_pass_2 ?_
  refine G_ifb_ne (tgt := 10) dX12_pass_5 (by decide) (fun c_1 => ?_) (fun c_1 => ?_)
  · refine G_aload_n (i := 0) dX12_pass_10 rfl rfl ?_
    refine G_iload_n (i := 2) dX12_pass_11 rfl rfl ?_
    refine G_iconst dX12_pass_12 ?_
    refine G_iconst dX12_pass_13 ?_
    refine G_cVq (as := [.inl w, .inl 0, .inl 1]) qX12_195 (m_in (d + 1) τ _ 81 w 0 1 (by omega) (by decide) (by decide)) rfl rfl (Nat.le_of_ble_eq_true rfl) (o81 hT) dX12_pass_14 ?_
    refine G_ifb_ne (tgt := 23) dX12_pass_17 (by decide) (fun c_2 => ?_) (fun c_2 => ?_)
    · refine G_aload_n (i := 0) dX12_pass_23 rfl rfl ?_
      refine G_getI (v := h 81 11) fX12_44 rfl dX12_pass_24 (o81 hT) rfl ?_
      refine G_if_ne (tgt := 33) dX12_pass_27 (by decide) (by omega) (fun c_3 => ?_) (fun c_3 => ?_)
      · refine G_aload_n (i := 0) dX12_pass_33 rfl rfl ?_
        refine G_iload_n (i := 1) dX12_pass_34 rfl rfl ?_
        refine G_cVq (as := [.inl p]) qX12_207 (m_after (d + 1) τ h hT p (by first | omega | grind [hs_, hf_]) (by first | omega | grind [hs_, hf_])) rfl rfl (Nat.le_of_ble_eq_true rfl) (o81 hT) dX12_pass_35 ?_
        refine G_istore_n (i := 3) (ls' := [some (.inr (some 81)), some (.inl p), some (.inl w), some (.inl (f_aft (h 81 1) p)), none, none, none, none]) dX12_pass_38 rfl (by decide) rfl ?_
        have hq : 0 ≤ (f_aft (h 81 1) p) ∧ (f_aft (h 81 1) p) < h 81 1 := by unfold f_aft; split <;> omega
        refine G_iload_n (i := 2) dX12_pass_39 rfl rfl ?_
        suffices K_6 : ∀ x_5 : Int, x_5 = (if w = 0 then h 86 ((p).toNat) else h 86 ((f_aft (h 81 1) p).toNat)) → G_ mX12_pass (d + 2) 0 0 58 [some (.inr (some 81)), some (.inl p), some (.inl w), some (.inl (f_aft (h 81 1) p)), none, none, none, none] [.inl x_5] τ h (Zi τ fun v h' => v = (f_pass h p w).1 ∧ h' = (f_pass h p w).2) by
          refine G_if_ne (tgt := 52) dX12_pass_40 (by decide) (by omega) (fun c_4 => ?_) (fun c_4 => ?_)
          · refine G_aload_n (i := 0) dX12_pass_52 rfl rfl ?_
            refine G_getR fX12_29 rfl dX12_pass_53 (o81 hT) (r81_6 hT) ?_
            refine G_iload_n (i := 3) dX12_pass_56 rfl rfl ?_
            refine G_iald (v := h 86 ((f_aft (h 81 1) p).toNat)) dX12_pass_57 (o86 hT) (by omega) rfl ?_
            exact K_6 _ (if_neg c_4).symm
          · refine G_aload_n (i := 0) dX12_pass_43 rfl rfl ?_
            refine G_getR fX12_29 rfl dX12_pass_44 (o81 hT) (r81_6 hT) ?_
            refine G_iload_n (i := 1) dX12_pass_47 rfl rfl ?_
            refine G_iald (v := h 86 ((p).toNat)) dX12_pass_48 (o86 hT) (by omega) rfl ?_
            refine G_goto (tgt := 58) dX12_pass_49 (by decide) ?_
            exact K_6 _ (if_pos c_4).symm
        intro x_5 ex_5
        refine G_istore (ls' := [some (.inr (some 81)), some (.inl p), some (.inl w), some (.inl (f_aft (h 81 1) p)), some (.inl x_5), none, none, none]) dX12_pass_58 (by decide) rfl ?_
        have q4 : 0 ≤ x_5 ∧ x_5 < h 81 1 := by have e1 := hh p.toNat (by omega); have e2 := hh (f_aft (h 81 1) p).toNat (by omega); rw [ex_5]; split <;> omega
        refine G_iload_n (i := 2) dX12_pass_60 rfl rfl ?_
        suffices K_9 : ∀ x_8 : Int, x_8 = (if w = 0 then h 86 ((f_aft (h 81 1) p).toNat) else h 86 ((p).toNat)) → G_ mX12_pass (d + 2) 0 0 79 [some (.inr (some 81)), some (.inl p), some (.inl w), some (.inl (f_aft (h 81 1) p)), some (.inl x_5), none, none, none] [.inl x_8] τ h (Zi τ fun v h' => v = (f_pass h p w).1 ∧ h' = (f_pass h p w).2) by
          refine G_if_ne (tgt := 73) dX12_pass_61 (by decide) (by omega) (fun c_7 => ?_) (fun c_7 => ?_)
          · refine G_aload_n (i := 0) dX12_pass_73 rfl rfl ?_
            refine G_getR fX12_29 rfl dX12_pass_74 (o81 hT) (r81_6 hT) ?_
            refine G_iload_n (i := 1) dX12_pass_77 rfl rfl ?_
            refine G_iald (v := h 86 ((p).toNat)) dX12_pass_78 (o86 hT) (by omega) rfl ?_
            exact K_9 _ (if_neg c_7).symm
          · refine G_aload_n (i := 0) dX12_pass_64 rfl rfl ?_
            refine G_getR fX12_29 rfl dX12_pass_65 (o81 hT) (r81_6 hT) ?_
            refine G_iload_n (i := 3) dX12_pass_68 rfl rfl ?_
            refine G_iald (v := h 86 ((f_aft (h 81 1) p).toNat)) dX12_pass_69 (o86 hT) (by omega) rfl ?_
            refine G_goto (tgt := 79) dX12_pass_70 (by decide) ?_
            exact K_9 _ (if_pos c_7).symm
        intro x_8 ex_8
        refine G_istore (ls' := [some (.inr (some 81)), some (.inl p), some (.inl w), some (.inl (f_aft (h 81 1) p)), some (.inl x_5), some (.inl x_8), none, none]) dX12_pass_79 (by decide) rfl ?_
        have q5 : 0 ≤ x_8 ∧ x_8 < h 81 1 := by have e1 := hh p.toNat (by omega); have e2 := hh (f_aft (h 81 1) p).toNat (by omega); rw [ex_8]; split <;> omega
        refine G_aload_n (i := 0) dX12_pass_81 rfl rfl ?_
        refine G_getR fX12_35 rfl dX12_pass_82 (o81 hT) (r81_8 hT) ?_
        refine G_iload dX12_pass_85 rfl ?_
        refine G_iald (v := h 88 ((x_5).toNat)) dX12_pass_87 (o88 hT) (by omega) rfl ?_
        have e_ := hl (x_5).toNat (by omega)
        refine G_iconst dX12_pass_88 ?_
        refine G_icmp_lt (tgt := 103) dX12_pass_89 (by decide) (by omega) (by decide) (fun c_10 => ?_) (fun c_10 => ?_)
        · refine G_bipush dX12_pass_103 (by decide) ?_
          refine G_iretZ rfl dX12_pass_105 ?_
          subst ex_5
          subst ex_8
          unfold f_pass; (repeat (first | rw [if_pos (by first | assumption | omega)] | rw [if_neg (by first | assumption | omega)])); first | exact ⟨rfl, rfl⟩ | rfl | (refine ⟨?_, ?_⟩ <;> first | rfl | omega | grind [hs_, hf_]) | grind [hs_, hf_]
        · refine G_aload_n (i := 0) dX12_pass_92 rfl rfl ?_
          refine G_getR fX12_35 rfl dX12_pass_93 (o81 hT) (r81_8 hT) ?_
          refine G_iload dX12_pass_96 rfl ?_
          refine G_iald (v := h 88 ((x_8).toNat)) dX12_pass_98 (o88 hT) (by omega) rfl ?_
          have e_ := hl (x_8).toNat (by omega)
          refine G_iconst dX12_pass_99 ?_
          refine G_icmp_ge (tgt := 106) dX12_pass_100 (by decide) (by omega) (by decide) (fun c_11 => ?_) (fun c_11 => ?_)
          · refine G_aload_n (i := 0) dX12_pass_106 rfl rfl ?_
            refine G_getI (v := h 81 14) fX12_54 rfl dX12_pass_107 (o81 hT) rfl ?_
            refine G_sipush dX12_pass_110 (by decide) ?_
            refine G_icmp_ne (tgt := 119) dX12_pass_113 (by decide) (by omega) (by decide) (fun c_12 => ?_) (fun c_12 => ?_)
            · refine G_aload_n (i := 0) dX12_pass_119 rfl rfl ?_
              refine G_getR fX12_35 rfl dX12_pass_120 (o81 hT) (r81_8 hT) ?_
              refine G_iload dX12_pass_123 rfl ?_
              refine G_dup2 dX12_pass_125 ?_
              refine G_iald (v := h 88 ((x_5).toNat)) dX12_pass_126 (o88 hT) (by omega) rfl ?_
              have e_ := hl (x_5).toNat (by omega)
              refine G_iconst dX12_pass_127 ?_
              refine G_isub dX12_pass_128 ?_
              refine G_iastk ((x_5).toNat) dX12_pass_129 (o88 hT) (by omega) rfl ?_
              refine G_aload_n (i := 0) dX12_pass_130 rfl rfl ?_
              refine G_getR fX12_35 rfl dX12_pass_131 (o81 hT) (r81_8 hT) ?_
              refine G_iload dX12_pass_134 rfl ?_
              refine G_dup2 dX12_pass_136 ?_
              refine G_iald (v := (hs_ h 88 ((x_5).toNat) ((h 88 ((x_5).toNat)) - 1)) 88 ((x_8).toNat)) dX12_pass_137 (o88 hT) (by omega) rfl ?_
              have e_ := hl (x_8).toNat (by omega)
              refine G_iconst dX12_pass_138 ?_
              refine G_isub dX12_pass_139 ?_
              refine G_iastk ((x_8).toNat) dX12_pass_140 (o88 hT) (by omega) rfl ?_
              refine G_aload_n (i := 0) dX12_pass_141 rfl rfl ?_
              refine G_getR fX12_29 rfl dX12_pass_142 (o81 hT) (r81_6 hT) ?_
              refine G_iload_n (i := 1) dX12_pass_145 rfl rfl ?_
              refine G_iald (v := h 86 ((p).toNat)) dX12_pass_146 (o86 hT) (by omega) ((hs_na (by decide)).trans (hs_na (by decide))) ?_
              refine G_istore (ls' := [some (.inr (some 81)), some (.inl p), some (.inl w), some (.inl (f_aft (h 81 1) p)), some (.inl x_5), some (.inl x_8), some (.inl (h 86 ((p).toNat))), none]) dX12_pass_147 (by decide) rfl ?_
              refine G_aload_n (i := 0) dX12_pass_149 rfl rfl ?_
              refine G_getR fX12_29 rfl dX12_pass_150 (o81 hT) (r81_6 hT) ?_
              refine G_iload_n (i := 1) dX12_pass_153 rfl rfl ?_
              refine G_aload_n (i := 0) dX12_pass_154 rfl rfl ?_
              refine G_getR fX12_29 rfl dX12_pass_155 (o81 hT) (r81_6 hT) ?_
              refine G_iload_n (i := 3) dX12_pass_158 rfl rfl ?_
              refine G_iald (v := h 86 ((f_aft (h 81 1) p).toNat)) dX12_pass_159 (o86 hT) (by omega) ((hs_na (by decide)).trans (hs_na (by decide))) ?_
              refine G_iastk ((p).toNat) dX12_pass_160 (o86 hT) (by omega) rfl ?_
              refine G_aload_n (i := 0) dX12_pass_161 rfl rfl ?_
              refine G_getR fX12_29 rfl dX12_pass_162 (o81 hT) (r81_6 hT) ?_
              refine G_iload_n (i := 3) dX12_pass_165 rfl rfl ?_
              refine G_iload dX12_pass_166 rfl ?_
              refine G_iastk ((f_aft (h 81 1) p).toNat) dX12_pass_168 (o86 hT) (by omega) rfl ?_
              refine G_aload_n (i := 0) dX12_pass_169 rfl rfl ?_
              refine G_getR fX12_26 rfl dX12_pass_170 (o81 hT) (r81_5 hT) ?_
              refine G_iload_n (i := 1) dX12_pass_173 rfl rfl ?_
              refine G_iald (v := h 85 ((p).toNat)) dX12_pass_174 (o85 hT) (by omega) ((hs_na (by decide)).trans ((hs_na (by decide)).trans ((hs_na (by decide)).trans (hs_na (by decide))))) ?_
              refine G_istore (ls' := [some (.inr (some 81)), some (.inl p), some (.inl w), some (.inl (f_aft (h 81 1) p)), some (.inl x_5), some (.inl x_8), some (.inl (h 86 ((p).toNat))), some (.inl (h 85 ((p).toNat)))]) dX12_pass_175 (by decide) rfl ?_
              refine G_aload_n (i := 0) dX12_pass_177 rfl rfl ?_
              refine G_getR fX12_26 rfl dX12_pass_178 (o81 hT) (r81_5 hT) ?_
              refine G_iload_n (i := 1) dX12_pass_181 rfl rfl ?_
              refine G_aload_n (i := 0) dX12_pass_182 rfl rfl ?_
              refine G_getR fX12_26 rfl dX12_pass_183 (o81 hT) (r81_5 hT) ?_
              refine G_iload_n (i := 3) dX12_pass_186 rfl rfl ?_
              refine G_iald (v := h 85 ((f_aft (h 81 1) p).toNat)) dX12_pass_187 (o85 hT) (by omega) ((hs_na (by decide)).trans ((hs_na (by decide)).trans ((hs_na (by decide)).trans (hs_na (by decide))))) ?_
              refine G_iastk ((p).toNat) dX12_pass_188 (o85 hT) (by omega) rfl ?_
              refine G_aload_n (i := 0) dX12_pass_189 rfl rfl ?_
              refine G_getR fX12_26 rfl dX12_pass_190 (o81 hT) (r81_5 hT) ?_
              refine G_iload_n (i := 3) dX12_pass_193 rfl rfl ?_
              refine G_iload dX12_pass_194 rfl ?_
              refine G_iastk ((f_aft (h 81 1) p).toNat) dX12_pass_196 (o85 hT) (by omega) rfl ?_
              refine G_aload_n (i := 0) dX12_pass_197 rfl rfl ?_
              refine G_getR fX12_63 rfl dX12_pass_198 (o81 hT) (r81_17 hT) ?_
              refine G_iload_n (i := 1) dX12_pass_201 rfl rfl ?_
              refine G_iload_n (i := 2) dX12_pass_202 rfl rfl ?_
              refine G_iconst dX12_pass_203 ?_
              refine G_iadd dX12_pass_204 ?_
              refine G_iastk ((p).toNat) dX12_pass_205 (o94 hT) (by omega) rfl ?_
              refine G_aload_n (i := 0) dX12_pass_206 rfl rfl ?_
              refine G_getR fX12_60 rfl dX12_pass_207 (o81 hT) (r81_16 hT) ?_
              refine G_aload_n (i := 0) dX12_pass_210 rfl rfl ?_
              refine G_getI (v := h 81 14) fX12_54 rfl dX12_pass_211 (o81 hT) ((hs_na (by decide)).trans ((hs_na (by decide)).trans ((hs_na (by decide)).trans ((hs_na (by decide)).trans ((hs_na (by decide)).trans ((hs_na (by decide)).trans (hs_na (by decide)))))))) ?_
              refine G_bipush dX12_pass_214 (by decide) ?_
              refine G_iload_n (i := 1) dX12_pass_216 rfl rfl ?_
              refine G_imul dX12_pass_217 ?_
              refine G_iload_n (i := 2) dX12_pass_218 rfl rfl ?_
              refine G_iadd dX12_pass_219 ?_
              refine G_iastk ((h 81 14).toNat) dX12_pass_220 (o93 hT) (by omega) rfl ?_
              refine G_aload_n (i := 0) dX12_pass_221 rfl rfl ?_
              refine G_dup dX12_pass_222 ?_
              refine G_getI (v := h 81 14) fX12_54 rfl dX12_pass_223 (o81 hT) ((hs_na (by decide)).trans ((hs_na (by decide)).trans ((hs_na (by decide)).trans ((hs_na (by decide)).trans ((hs_na (by decide)).trans ((hs_na (by decide)).trans ((hs_na (by decide)).trans (hs_na (by decide))))))))) ?_
              refine G_iconst dX12_pass_226 ?_
              refine G_iadd dX12_pass_227 ?_
              refine G_putI fX12_54 dX12_pass_228 (o81 hT) ?_
              refine G_aload_n (i := 0) dX12_pass_231 rfl rfl ?_
              refine G_getI (v := (h 81 14) + 1) fX12_54 rfl dX12_pass_232 (o81 hT) (hs_eq) ?_
              refine G_iretZ rfl dX12_pass_235 ?_
              subst ex_5
              subst ex_8
              unfold f_pass; (repeat (first | rw [if_pos (by first | assumption | omega)] | rw [if_neg (by first | assumption | omega)])); first | exact ⟨rfl, rfl⟩ | rfl | (refine ⟨?_, ?_⟩ <;> first | rfl | omega | grind [hs_, hf_]) | grind [hs_, hf_]
            · refine G_bipush dX12_pass_116 (by decide) ?_
              refine G_iretZ rfl dX12_pass_118 ?_
              subst ex_5
              subst ex_8
              unfold f_pass; (repeat (first | rw [if_pos (by first | assumption | omega)] | rw [if_neg (by first | assumption | omega)])); first | exact ⟨rfl, rfl⟩ | rfl | (refine ⟨?_, ?_⟩ <;> first | rfl | omega | grind [hs_, hf_]) | grind [hs_, hf_]
          · refine G_bipush dX12_pass_103 (by decide) ?_
            refine G_iretZ rfl dX12_pass_105 ?_
            subst ex_5
            subst ex_8
            unfold f_pass; (repeat (first | rw [if_pos (by first | assumption | omega)] | rw [if_neg (by first | assumption | omega)])); first | exact ⟨rfl, rfl⟩ | rfl | (refine ⟨?_, ?_⟩ <;> first | rfl | omega | grind [hs_, hf_]) | grind [hs_, hf_]
      · refine G_bipush dX12_pass_30 (by decide) ?_
        refine G_iretZ rfl dX12_pass_32 ?_
        unfold f_pass; (repeat (first | rw [if_pos (by first | assumption | omega)] | rw [if_neg (by first | assumption | omega)])); first | exact ⟨rfl, rfl⟩ | rfl | (refine ⟨?_, ?_⟩ <;> first | rfl | omega | grind [hs_, hf_]) | grind [hs_, hf_]
    · refine G_bipush dX12_pass_20 (by decide) ?_
      refine G_iretZ rfl dX12_pass_22 ?_
      unfold f_pass; (repeat (first | rw [if_pos (by first | assumption | omega)] | rw [if_neg (by first | assumption | omega)])); first | exact ⟨rfl, rfl⟩ | rfl | (refine ⟨?_, ?_⟩ <;> first | rfl | omega | grind [hs_, hf_]) | grind [hs_, hf_]
  · refine G_iconst dX12_pass_8 ?_
    refine G_iretZ rfl dX12_pass_9 ?_
    unfold f_pass; (repeat (first | rw [if_pos (by first | assumption | omega)] | rw [if_neg (by first | assumption | omega)])); first | exact ⟨rfl, rfl⟩ | rfl | (refine ⟨?_, ?_⟩ <;> first | rfl | omega | grind [hs_, hf_]) | grind [hs_, hf_]

def f_t1 (h : HT) (a n k : Nat) : HT := fun b j => if b = a ∧ k < j ∧ j < n then h a (j - 1) else h b j
def f_t2 (h : HT) (a k : Nat) : HT := fun b j => if b = a ∧ j < k then h a (j + 1) else h b j
def f_turn (h : HT) (a n : Nat) (w : Int) : HT := fun b j => if b = a ∧ j < n then (if w = 0 then (if j = 0 then h a (n - 1) else h a (j - 1)) else (if j = n - 1 then h a 0 else h a (j + 1))) else h b j
theorem f_t1_o {h : HT} {a n k b j : Nat} (hb : b ≠ a) : f_t1 h a n k b j = h b j := if_neg fun q => hb q.1
theorem f_t2_o {h : HT} {a k b j : Nat} (hb : b ≠ a) : f_t2 h a k b j = h b j := if_neg fun q => hb q.1
theorem f_turn_o {h : HT} {a n b j : Nat} {w : Int} (hb : b ≠ a) : f_turn h a n w b j = h b j := if_neg fun q => hb q.1
theorem f_turn_e1 {h : HT} {a n : Nat} (hn : 0 < n) : hs_ (f_t1 h a n 0) a 0 (h a (n - 1)) = f_turn h a n 0 := by funext b j; grind [hs_, f_t1, f_turn]
theorem f_turn_e2 {h : HT} {a n : Nat} {w : Int} (hw : w ≠ 0) (hn : 0 < n) : hs_ (f_t2 h a (n - 1)) a (n - 1) (h a 0) = f_turn h a n w := by funext b j; grind [hs_, f_t2, f_turn]
theorem f_t1_b {h : HT} {a n : Nat} : f_t1 h a n (n - 1) = h := by funext b j; grind [f_t1]
theorem f_t2_b {h : HT} {a : Nat} : f_t2 h a 0 = h := by funext b j; grind [f_t2]
theorem f_t1_s {h : HT} {a n k : Nat} (hk : k + 1 < n) : hs_ (f_t1 h a n (k + 1)) a (k + 1) (f_t1 h a n (k + 1) a k) = f_t1 h a n k := by funext b j; grind [hs_, f_t1]
theorem f_t2_s {h : HT} {a k : Nat} : hs_ (f_t2 h a k) a k (f_t2 h a k a (k + 1)) = f_t2 h a (k + 1) := by funext b j; grind [hs_, f_t2]
theorem m_turn_L1 (d : Nat) (τ : TT) (h : HT) (hT : TK τ) (a L : Nat) (hA : ar_ τ a 13 L) (w : Int) (r_w : -2147483648 ≤ w ∧ w ≤ 2147483647) (ha : a ≠ 81) (hn : 1 ≤ h 81 1 ∧ h 81 1 ≤ L) (hL : L ≤ 9) (hw : w = 0) : ∀ (n_ : Nat) (i : Nat), i < n_ → (i : Int) < h 81 1 → G_ mX12_turn d 0 0 21 [some (.inr (some 81)), some (.inr (some a)), some (.inl w), some (.inl (h a ((h 81 1).toNat - 1))), some (.inl (i : Int))] [] τ (f_t1 h a (h 81 1).toNat i) (Zv τ fun h' => h' = f_turn h a (h 81 1).toNat w) := by
  intro n_
  induction n_ with
  | zero => intro i hm_; exact absurd hm_ (Nat.not_lt_zero _)
  | succ n_ ih =>
    intro i hm_ hi
    refine G_iload dX12_turn_21 rfl ?_
    refine G_if_le (tgt := 42) dX12_turn_23 (by decide) (by omega) (fun c_1 => ?_) (fun c_1 => ?_)
    · refine G_aload_n (i := 1) dX12_turn_42 rfl rfl ?_
      refine G_iconst dX12_turn_43 ?_
      refine G_iload_n (i := 3) dX12_turn_44 rfl rfl ?_
      refine G_iastk 0 dX12_turn_45 hA (by omega) rfl ?_
      refine G_goto (tgt := 92) dX12_turn_46 (by decide) ?_
      refine G_vretZ rfl dX12_turn_92 ?_
      obtain rfl : i = 0 := by omega
      rw [show w = 0 from hw]
      exact f_turn_e1 (by omega)
    · refine G_aload_n (i := 1) dX12_turn_26 rfl rfl ?_
      refine G_iload dX12_turn_27 rfl ?_
      refine G_aload_n (i := 1) dX12_turn_29 rfl rfl ?_
      refine G_iload dX12_turn_30 rfl ?_
      refine G_iconst dX12_turn_32 ?_
      refine G_isub dX12_turn_33 ?_
      refine G_iald (v := (f_t1 h a (h 81 1).toNat i) a (((i : Int) - 1).toNat)) dX12_turn_34 hA (by omega) rfl ?_
      refine G_iastk i dX12_turn_35 hA (by omega) rfl ?_
      refine G_iinc (ls' := [some (.inr (some 81)), some (.inr (some a)), some (.inl w), some (.inl (h a ((h 81 1).toNat - 1))), some (.inl ((i : Int) + (-1)))]) dX12_turn_36 (by decide) rfl rfl ?_
      refine G_goto (tgt := 21) dX12_turn_39 (by decide) ?_
      obtain ⟨k, rfl⟩ : ∃ k, i = k + 1 := ⟨i - 1, by omega⟩
      have e1 : (((k + 1 : Nat) : Int) - 1).toNat = k := by omega
      have e2 : ((k + 1 : Nat) : Int) + (-1) = (k : Int) := by omega
      rw [e1, e2, f_t1_s (by omega)]
      exact ih k (by omega) (by omega)

theorem m_turn_L2 (d : Nat) (τ : TT) (h : HT) (hT : TK τ) (a L : Nat) (hA : ar_ τ a 13 L) (w : Int) (r_w : -2147483648 ≤ w ∧ w ≤ 2147483647) (ha : a ≠ 81) (hn : 1 ≤ h 81 1 ∧ h 81 1 ≤ L) (hL : L ≤ 9) (hw : w ≠ 0) : ∀ (n_ : Nat) (i : Nat), (h 81 1).toNat - i < n_ → (i : Int) ≤ h 81 1 - 1 → G_ mX12_turn d 0 0 56 [some (.inr (some 81)), some (.inr (some a)), some (.inl w), some (.inl (h a 0)), some (.inl (i : Int))] [] τ (f_t2 h a i) (Zv τ fun h' => h' = f_turn h a (h 81 1).toNat w) := by
  intro n_
  induction n_ with
  | zero => intro i hm_; exact absurd hm_ (Nat.not_lt_zero _)
  | succ n_ ih =>
    intro i hm_ hi
    refine G_iload dX12_turn_56 rfl ?_
    refine G_aload_n (i := 0) dX12_turn_58 rfl rfl ?_
    refine G_getI (v := h 81 1) fX12_13 rfl dX12_turn_59 (o81 hT) (f_t2_o (by omega)) ?_
    refine G_iconst dX12_turn_62 ?_
    refine G_isub dX12_turn_63 ?_
    refine G_icmp_ge (tgt := 83) dX12_turn_64 (by decide) (by omega) (by omega) (fun c_1 => ?_) (fun c_1 => ?_)
    · refine G_aload_n (i := 1) dX12_turn_83 rfl rfl ?_
      refine G_aload_n (i := 0) dX12_turn_84 rfl rfl ?_
      refine G_getI (v := h 81 1) fX12_13 rfl dX12_turn_85 (o81 hT) (f_t2_o (by omega)) ?_
      refine G_iconst dX12_turn_88 ?_
      refine G_isub dX12_turn_89 ?_
      refine G_iload_n (i := 3) dX12_turn_90 rfl rfl ?_
      refine G_iastk (((h 81 1) - 1).toNat) dX12_turn_91 hA (by omega) rfl ?_
      refine G_vretZ rfl dX12_turn_92 ?_
      obtain rfl : i = (h 81 1).toNat - 1 := by omega
      rw [show (h 81 1 - 1).toNat = (h 81 1).toNat - 1 by omega]
      exact f_turn_e2 hw (by omega)
    · refine G_aload_n (i := 1) dX12_turn_67 rfl rfl ?_
      refine G_iload dX12_turn_68 rfl ?_
      refine G_aload_n (i := 1) dX12_turn_70 rfl rfl ?_
      refine G_iload dX12_turn_71 rfl ?_
      refine G_iconst dX12_turn_73 ?_
      refine G_iadd dX12_turn_74 ?_
      refine G_iald (v := (f_t2 h a i) a (i + 1)) dX12_turn_75 hA (by omega) rfl ?_
      refine G_iastk i dX12_turn_76 hA (by omega) rfl ?_
      refine G_iinc (ls' := [some (.inr (some 81)), some (.inr (some a)), some (.inl w), some (.inl (h a 0)), some (.inl ((i : Int) + 1))]) dX12_turn_77 (by decide) rfl rfl ?_
      refine G_goto (tgt := 56) dX12_turn_80 (by decide) ?_
      rw [f_t2_s]
      exact ih (i + 1) (by omega) (by omega)

theorem m_turn (d : Nat) (τ : TT) (h : HT) (hT : TK τ) (a L : Nat) (hA : ar_ τ a 13 L) (w : Int) (r_w : -2147483648 ≤ w ∧ w ≤ 2147483647) (ha : a ≠ 81) (hn : 1 ≤ h 81 1 ∧ h 81 1 ≤ L) (hL : L ≤ 9) : S_ mX12_turn d 0 0 [.inr (some 81), .inr (some a), .inl w] τ h (Zv τ fun h' => h' = f_turn h a (h 81 1).toNat w) := by
  refine S_go (k := 2) (ls := [some (.inr (some 81)), some (.inr (some a)), some (.inl w), none, none]) (by decide) rfl (Nat.le_of_ble_eq_true rfl) rfl ?_
  refine G_iload_n (i := 2) dX12_turn_0 rfl rfl ?_
  refine G_if_ne (tgt := 49) dX12_turn_1 (by decide) (by omega) (fun c_1 => ?_) (fun c_1 => ?_)
  · refine G_aload_n (i := 1) dX12_turn_49 rfl rfl ?_
    refine G_iconst dX12_turn_50 ?_
    refine G_iald (v := h a 0) dX12_turn_51 hA (by omega) rfl ?_
    refine G_istore_n (i := 3) (ls' := [some (.inr (some 81)), some (.inr (some a)), some (.inl w), some (.inl (h a 0)), none]) dX12_turn_52 rfl (by decide) rfl ?_
    refine G_iconst dX12_turn_53 ?_
    refine G_istore (ls' := [some (.inr (some 81)), some (.inr (some a)), some (.inl w), some (.inl (h a 0)), some (.inl 0)]) dX12_turn_54 (by decide) rfl ?_
    have := m_turn_L2 d τ h hT a L hA w r_w ha hn hL (by omega) _ 0 (Nat.lt_succ_self _) (by omega)
    rw [f_t2_b] at this
    exact this
  · refine G_aload_n (i := 1) dX12_turn_4 rfl rfl ?_
    refine G_aload_n (i := 0) dX12_turn_5 rfl rfl ?_
    refine G_getI (v := h 81 1) fX12_13 rfl dX12_turn_6 (o81 hT) rfl ?_
    refine G_iconst dX12_turn_9 ?_
    refine G_isub dX12_turn_10 ?_
    refine G_iald (v := h a (((h 81 1) - 1).toNat)) dX12_turn_11 hA (by omega) rfl ?_
    refine G_istore_n (i := 3) (ls' := [some (.inr (some 81)), some (.inr (some a)), some (.inl w), some (.inl (h a (((h 81 1) - 1).toNat))), none]) dX12_turn_12 rfl (by decide) rfl ?_
    refine G_aload_n (i := 0) dX12_turn_13 rfl rfl ?_
    refine G_getI (v := h 81 1) fX12_13 rfl dX12_turn_14 (o81 hT) rfl ?_
    refine G_iconst dX12_turn_17 ?_
    refine G_isub dX12_turn_18 ?_
    refine G_istore (ls' := [some (.inr (some 81)), some (.inr (some a)), some (.inl w), some (.inl (h a (((h 81 1) - 1).toNat))), some (.inl ((h 81 1) - 1))]) dX12_turn_19 (by decide) rfl ?_
    have e1 : (h 81 1 - 1).toNat = (h 81 1).toNat - 1 := by omega
    have e2 : h 81 1 - 1 = (((h 81 1).toNat - 1 : Nat) : Int) := by omega
    rw [e1]
    have := m_turn_L1 d τ h hT a L hA w r_w ha hn hL (by omega) _ ((h 81 1).toNat - 1) (Nat.lt_succ_self _) (by omega)
    rw [f_t1_b, ← e2] at this
    exact this

def f_w1 (h : HT) (g : Int) (i : Nat) : HT := fun b j => if b = 88 ∧ j < i then h 88 j - g else h b j
def f_w2 (h : HT) (R i : Nat) : HT := fun b j => if b = 95 ∧ 9 * R ≤ j ∧ j < 9 * R + i then h 86 (j - 9 * R) else if b = 96 ∧ 9 * R ≤ j ∧ j < 9 * R + i then h 94 (j - 9 * R) else if b = 94 ∧ j < i then 0 else h b j
theorem f_w10 (h : HT) (g : Int) : f_w1 h g 0 = h := by funext b j; grind [f_w1]
theorem f_w20 (h : HT) (R : Nat) : f_w2 h R 0 = h := by funext b j; grind [f_w2]
theorem f_w1_o {h : HT} {g : Int} {i b j : Nat} (hb : b ≠ 88) : f_w1 h g i b j = h b j := if_neg fun q => hb q.1
theorem f_w2_o {h : HT} {R i b j : Nat} (hb : b ≠ 95 ∧ b ≠ 96 ∧ b ≠ 94) : f_w2 h R i b j = h b j := by grind [f_w2]
theorem f_w1_s {h : HT} {g : Int} {i : Nat} : hs_ (f_w1 h g i) 88 i (f_w1 h g i 88 i - g) = f_w1 h g (i + 1) := by funext b j; grind [hs_, f_w1]
theorem f_w2_s {h : HT} {R i : Nat} : hs_ (hs_ (hs_ (f_w2 h R i) 95 (9 * R + i) (h 86 i)) 96 (9 * R + i) (f_w2 h R i 94 i)) 94 i 0 = f_w2 h R (i + 1) := by funext b j; grind (splits := 30) [hs_, f_w2]
def f_walkW (h : HT) (w : Int) : HT :=
  let h1 := f_turn (f_turn (f_w1 h (10 + (h 81 15).tdiv 3) (h 81 1).toNat) 86 (h 81 1).toNat w) 85 (h 81 1).toNat w
  hs_ (hs_ (hs_ (f_w2 h1 (h 81 15).toNat (h 81 1).toNat) 81 15 (h 81 15 + 1)) 93 (h 81 14).toNat (100 + w)) 81 14 (h 81 14 + 1)
def f_walk (h : HT) (w : Int) : Int × HT := if ¬ (0 ≤ w ∧ w ≤ 1) then (-2, h) else if h 81 11 = 0 then (-3, h) else if ∃ k, k < (h 81 1).toNat ∧ h 88 k < 10 + (h 81 15).tdiv 3 then (-3, h) else if h 81 14 = 300 ∨ h 81 15 = 100 then (-4, h) else (h 81 14 + 1, f_walkW h w)
theorem m_walk_L3 (d : Nat) (τ : TT) (h : HT) (hT : TK τ) (w g : Int) (hn : 0 ≤ h 81 1 ∧ h 81 1 ≤ 9) (hr : 0 ≤ h 81 15 ∧ h 81 15 ≤ 99) (hst : 0 ≤ h 81 14 ∧ h 81 14 ≤ 299) : ∀ (n_ : Nat) (i : Nat), (h 81 1).toNat - i < n_ → (i : Int) ≤ h 81 1 → G_ mX12_walk (d + 1) 0 0 125 [some (.inr (some 81)), some (.inl w), some (.inl g), some (.inl (i : Int))] [] τ (f_w2 h (h 81 15).toNat i) (Zi τ fun v h' => v = h 81 14 + 1 ∧ h' = hs_ (hs_ (hs_ (f_w2 h (h 81 15).toNat (h 81 1).toNat) 81 15 (h 81 15 + 1)) 93 (h 81 14).toNat (100 + w)) 81 14 (h 81 14 + 1)) := by
  intro n_
  induction n_ with
  | zero => intro i hm_; exact absurd hm_ (Nat.not_lt_zero _)
  | succ n_ ih =>
    intro i hm_ hi
    refine G_iload_n (i := 3) dX12_walk_125 rfl rfl ?_
    refine G_aload_n (i := 0) dX12_walk_126 rfl rfl ?_
    refine G_getI (v := h 81 1) fX12_13 rfl dX12_walk_127 (o81 hT) (f_w2_o (by decide)) ?_
    refine G_icmp_ge (tgt := 186) dX12_walk_130 (by decide) (by omega) (by omega) (fun c_1 => ?_) (fun c_1 => ?_)
    · refine G_aload_n (i := 0) dX12_walk_186 rfl rfl ?_
      refine G_dup dX12_walk_187 ?_
      refine G_getI (v := h 81 15) fX12_57 rfl dX12_walk_188 (o81 hT) (f_w2_o (by decide)) ?_
      refine G_iconst dX12_walk_191 ?_
      refine G_iadd dX12_walk_192 ?_
      refine G_putI fX12_57 dX12_walk_193 (o81 hT) ?_
      refine G_aload_n (i := 0) dX12_walk_196 rfl rfl ?_
      refine G_getR fX12_60 rfl dX12_walk_197 (o81 hT) (r81_16 hT) ?_
      refine G_aload_n (i := 0) dX12_walk_200 rfl rfl ?_
      refine G_getI (v := h 81 14) fX12_54 rfl dX12_walk_201 (o81 hT) ((hs_ni (by decide)).trans (f_w2_o (by decide))) ?_
      refine G_bipush dX12_walk_204 (by decide) ?_
      refine G_iload_n (i := 1) dX12_walk_206 rfl rfl ?_
      refine G_iadd dX12_walk_207 ?_
      refine G_iastk ((h 81 14).toNat) dX12_walk_208 (o93 hT) (by omega) rfl ?_
      refine G_aload_n (i := 0) dX12_walk_209 rfl rfl ?_
      refine G_dup dX12_walk_210 ?_
      refine G_getI (v := h 81 14) fX12_54 rfl dX12_walk_211 (o81 hT) ((hs_na (by decide)).trans ((hs_ni (by decide)).trans (f_w2_o (by decide)))) ?_
      refine G_iconst dX12_walk_214 ?_
      refine G_iadd dX12_walk_215 ?_
      refine G_putI fX12_54 dX12_walk_216 (o81 hT) ?_
      refine G_aload_n (i := 0) dX12_walk_219 rfl rfl ?_
      refine G_getI (v := (h 81 14) + 1) fX12_54 rfl dX12_walk_220 (o81 hT) (hs_eq) ?_
      refine G_iretZ rfl dX12_walk_223 ?_
      obtain rfl : i = (h 81 1).toNat := by omega
      exact ⟨rfl, rfl⟩
    · refine G_aload_n (i := 0) dX12_walk_133 rfl rfl ?_
      refine G_getR fX12_66 rfl dX12_walk_134 (o81 hT) (r81_18 hT) ?_
      refine G_bipush dX12_walk_137 (by decide) ?_
      refine G_aload_n (i := 0) dX12_walk_139 rfl rfl ?_
      refine G_getI (v := h 81 15) fX12_57 rfl dX12_walk_140 (o81 hT) (f_w2_o (by decide)) ?_
      refine G_imul dX12_walk_143 ?_
      refine G_iload_n (i := 3) dX12_walk_144 rfl rfl ?_
      refine G_iadd dX12_walk_145 ?_
      refine G_aload_n (i := 0) dX12_walk_146 rfl rfl ?_
      refine G_getR fX12_29 rfl dX12_walk_147 (o81 hT) (r81_6 hT) ?_
      refine G_iload_n (i := 3) dX12_walk_150 rfl rfl ?_
      refine G_iald (v := h 86 i) dX12_walk_151 (o86 hT) (by omega) (f_w2_o (by decide)) ?_
      refine G_iastk (((9 * (h 81 15)) + (i : Int)).toNat) dX12_walk_152 (o95 hT) (by omega) rfl ?_
      refine G_aload_n (i := 0) dX12_walk_153 rfl rfl ?_
      refine G_getR fX12_69 rfl dX12_walk_154 (o81 hT) (r81_19 hT) ?_
      refine G_bipush dX12_walk_157 (by decide) ?_
      refine G_aload_n (i := 0) dX12_walk_159 rfl rfl ?_
      refine G_getI (v := h 81 15) fX12_57 rfl dX12_walk_160 (o81 hT) ((hs_na (by decide)).trans (f_w2_o (by decide))) ?_
      refine G_imul dX12_walk_163 ?_
      refine G_iload_n (i := 3) dX12_walk_164 rfl rfl ?_
      refine G_iadd dX12_walk_165 ?_
      refine G_aload_n (i := 0) dX12_walk_166 rfl rfl ?_
      refine G_getR fX12_63 rfl dX12_walk_167 (o81 hT) (r81_17 hT) ?_
      refine G_iload_n (i := 3) dX12_walk_170 rfl rfl ?_
      refine G_iald (v := (f_w2 h (h 81 15).toNat i) 94 i) dX12_walk_171 (o94 hT) (by omega) (hs_na (by decide)) ?_
      refine G_iastk (((9 * (h 81 15)) + (i : Int)).toNat) dX12_walk_172 (o96 hT) (by omega) rfl ?_
      refine G_aload_n (i := 0) dX12_walk_173 rfl rfl ?_
      refine G_getR fX12_63 rfl dX12_walk_174 (o81 hT) (r81_17 hT) ?_
      refine G_iload_n (i := 3) dX12_walk_177 rfl rfl ?_
      refine G_iconst dX12_walk_178 ?_
      refine G_iastk i dX12_walk_179 (o94 hT) (by omega) rfl ?_
      refine G_iinc (ls' := [some (.inr (some 81)), some (.inl w), some (.inl g), some (.inl ((i : Int) + 1))]) dX12_walk_180 (by decide) rfl rfl ?_
      refine G_goto (tgt := 125) dX12_walk_183 (by decide) ?_
      rw [show ((9 * h 81 15 + (i : Int)).toNat) = 9 * (h 81 15).toNat + i by omega]
      rw [f_w2_s]
      exact ih (i + 1) (by omega) (by omega)

theorem m_walk_L2 (d : Nat) (τ : TT) (h : HT) (hT : TK τ) (w : Int) (r_w : -2147483648 ≤ w ∧ w ≤ 2147483647) (hn : 3 ≤ h 81 1 ∧ h 81 1 ≤ 9) (hr : 0 ≤ h 81 15 ∧ h 81 15 ≤ 99) (hst : 0 ≤ h 81 14 ∧ h 81 14 ≤ 299) : ∀ (n_ : Nat) (i : Nat), (h 81 1).toNat - i < n_ → (i : Int) ≤ h 81 1 → G_ mX12_walk (d + 1) 0 0 81 [some (.inr (some 81)), some (.inl w), some (.inl (10 + (h 81 15).tdiv 3)), some (.inl (i : Int))] [] τ (f_w1 h (10 + (h 81 15).tdiv 3) i) (Zi τ fun v h' => v = h 81 14 + 1 ∧ h' = f_walkW h w) := by
  intro n_
  induction n_ with
  | zero => intro i hm_; exact absurd hm_ (Nat.not_lt_zero _)
  | succ n_ ih =>
    intro i hm_ hi
    refine G_iload_n (i := 3) dX12_walk_81 rfl rfl ?_
    refine G_aload_n (i := 0) dX12_walk_82 rfl rfl ?_
    refine G_getI (v := h 81 1) fX12_13 rfl dX12_walk_83 (o81 hT) (f_w1_o (by decide)) ?_
    refine G_icmp_ge (tgt := 105) dX12_walk_86 (by decide) (by omega) (by omega) (fun c_1 => ?_) (fun c_1 => ?_)
    · refine G_aload_n (i := 0) dX12_walk_105 rfl rfl ?_
      refine G_aload_n (i := 0) dX12_walk_106 rfl rfl ?_
      refine G_getR fX12_29 rfl dX12_walk_107 (o81 hT) (r81_6 hT) ?_
      refine G_iload_n (i := 1) dX12_walk_110 rfl rfl ?_
      refine G_cVv (as := [.inr (some 86), .inl w]) qX12_215 (m_turn d τ (f_w1 h (10 + (h 81 15).tdiv 3) i) hT 86 9 (o86 hT) w (by first | omega | (simp only [f_turn_o (show (81 : Nat) ≠ 86 by decide), f_w1_o (show (81 : Nat) ≠ 88 by decide)]; omega)) (by decide) (by first | omega | (simp only [f_turn_o (show (81 : Nat) ≠ 86 by decide), f_w1_o (show (81 : Nat) ≠ 88 by decide)]; omega)) (by decide)) rfl rfl (Nat.le_of_ble_eq_true rfl) (o81 hT) dX12_walk_111 (fun h' e' => ?_)
      subst e'
      refine G_aload_n (i := 0) dX12_walk_114 rfl rfl ?_
      refine G_aload_n (i := 0) dX12_walk_115 rfl rfl ?_
      refine G_getR fX12_26 rfl dX12_walk_116 (o81 hT) (r81_5 hT) ?_
      refine G_iload_n (i := 1) dX12_walk_119 rfl rfl ?_
      refine G_cVv (as := [.inr (some 85), .inl w]) qX12_215 (m_turn d τ (f_turn (f_w1 h (10 + (h 81 15).tdiv 3) i) 86 ((f_w1 h (10 + (h 81 15).tdiv 3) i) 81 1).toNat w) hT 85 9 (o85 hT) w (by first | omega | (simp only [f_turn_o (show (81 : Nat) ≠ 86 by decide), f_w1_o (show (81 : Nat) ≠ 88 by decide)]; omega)) (by decide) (by first | omega | (simp only [f_turn_o (show (81 : Nat) ≠ 86 by decide), f_w1_o (show (81 : Nat) ≠ 88 by decide)]; omega)) (by decide)) rfl rfl (Nat.le_of_ble_eq_true rfl) (o81 hT) dX12_walk_120 (fun h' e' => ?_)
      subst e'
      refine G_iconst dX12_walk_123 ?_
      refine G_istore_n (i := 3) (ls' := [some (.inr (some 81)), some (.inl w), some (.inl (10 + (h 81 15).tdiv 3)), some (.inl 0)]) dX12_walk_124 rfl (by decide) rfl ?_
      generalize hX : (f_turn (f_turn (f_w1 h (10 + (h 81 15).tdiv 3) i) 86 ((f_w1 h (10 + (h 81 15).tdiv 3) i) 81 1).toNat w) 85 ((f_turn (f_w1 h (10 + (h 81 15).tdiv 3) i) 86 ((f_w1 h (10 + (h 81 15).tdiv 3) i) 81 1).toNat w) 81 1).toNat w) = X
      have x1 : X 81 1 = h 81 1 := by rw [← hX, f_turn_o (by decide), f_turn_o (by decide), f_w1_o (by decide)]
      have x14 : X 81 14 = h 81 14 := by rw [← hX, f_turn_o (by decide), f_turn_o (by decide), f_w1_o (by decide)]
      have x15 : X 81 15 = h 81 15 := by rw [← hX, f_turn_o (by decide), f_turn_o (by decide), f_w1_o (by decide)]
      have := m_walk_L3 d τ X hT w (10 + (h 81 15).tdiv 3) (by omega) (by omega) (by omega) _ 0 (Nat.lt_succ_self _) (by omega)
      rw [f_w20] at this
      refine G_mono ?_ this
      rintro r τ' h' ⟨q1, v, q2, rfl, rfl⟩
      refine ⟨q1, _, q2, by rw [x14], ?_⟩
      unfold f_walkW
      rw [x1, x14, x15, ← hX]
      obtain rfl : i = (h 81 1).toNat := by omega
      simp only [f_turn_o (show (81 : Nat) ≠ 86 by decide), f_w1_o (show (81 : Nat) ≠ 88 by decide)]
    · refine G_aload_n (i := 0) dX12_walk_89 rfl rfl ?_
      refine G_getR fX12_35 rfl dX12_walk_90 (o81 hT) (r81_8 hT) ?_
      refine G_iload_n (i := 3) dX12_walk_93 rfl rfl ?_
      refine G_dup2 dX12_walk_94 ?_
      refine G_iald (v := (f_w1 h (10 + (h 81 15).tdiv 3) i) 88 i) dX12_walk_95 (o88 hT) (by omega) rfl ?_
      refine G_iload_n (i := 2) dX12_walk_96 rfl rfl ?_
      refine G_isub dX12_walk_97 ?_
      refine G_iastk i dX12_walk_98 (o88 hT) (by omega) rfl ?_
      refine G_iinc (ls' := [some (.inr (some 81)), some (.inl w), some (.inl (10 + (h 81 15).tdiv 3)), some (.inl ((i : Int) + 1))]) dX12_walk_99 (by decide) rfl rfl ?_
      refine G_goto (tgt := 81) dX12_walk_102 (by decide) ?_
      rw [f_w1_s]
      exact ih (i + 1) (by omega) (by omega)

theorem m_walk_L1 (d : Nat) (τ : TT) (h : HT) (hT : TK τ) (w : Int) (r_w : -2147483648 ≤ w ∧ w ≤ 2147483647) (hn : 3 ≤ h 81 1 ∧ h 81 1 ≤ 9) (hd : 0 ≤ h 81 11 ∧ h 81 11 ≤ 1) (hr : 0 ≤ h 81 15 ∧ h 81 15 ≤ 100) (hst : 0 ≤ h 81 14 ∧ h 81 14 ≤ 300) (hl : ∀ k : Nat, k < 9 → 0 ≤ h 88 k ∧ h 88 k ≤ 99999) (g1 : 0 ≤ w ∧ w ≤ 1) (g2 : h 81 11 ≠ 0) : ∀ (n_ : Nat) (i : Nat), (h 81 1).toNat - i < n_ → (i : Int) ≤ h 81 1 → (∀ j : Nat, j < i → ¬ h 88 j < 10 + (h 81 15).tdiv 3) → G_ mX12_walk (d + 1) 0 0 30 [some (.inr (some 81)), some (.inl w), some (.inl (10 + (h 81 15).tdiv 3)), some (.inl (i : Int))] [] τ h (Zi τ fun v h' => v = (f_walk h w).1 ∧ h' = (f_walk h w).2) := by
  intro n_
  induction n_ with
  | zero => intro i hm_; exact absurd hm_ (Nat.not_lt_zero _)
  | succ n_ ih =>
    intro i hm_ hi hj
    have hg : 0 ≤ (h 81 15).tdiv 3 ∧ (h 81 15).tdiv 3 ≤ 100 := ⟨Int.tdiv_nonneg hr.1 (by decide), Int.le_trans (Int.tdiv_le_self _ hr.1) hr.2⟩
    refine G_iload_n (i := 3) dX12_walk_30 rfl rfl ?_
    refine G_aload_n (i := 0) dX12_walk_31 rfl rfl ?_
    refine G_getI (v := h 81 1) fX12_13 rfl dX12_walk_32 (o81 hT) rfl ?_
    refine G_icmp_ge (tgt := 57) dX12_walk_35 (by decide) (by omega) (by omega) (fun c_1 => ?_) (fun c_1 => ?_)
    · refine G_aload_n (i := 0) dX12_walk_57 rfl rfl ?_
      refine G_getI (v := h 81 14) fX12_54 rfl dX12_walk_58 (o81 hT) rfl ?_
      refine G_sipush dX12_walk_61 (by decide) ?_
      refine G_icmp_eq (tgt := 76) dX12_walk_64 (by decide) (by omega) (by decide) (fun c_2 => ?_) (fun c_2 => ?_)
      · refine G_bipush dX12_walk_76 (by decide) ?_
        refine G_iretZ rfl dX12_walk_78 ?_
        have hx : ¬ ∃ k, k < (h 81 1).toNat ∧ h 88 k < 10 + (h 81 15).tdiv 3 := by rintro ⟨k, k1, k2⟩; exact hj k (by omega) k2
        unfold f_walk; (repeat (first | rw [if_pos (by first | assumption | omega)] | rw [if_neg (by first | assumption | omega)])); first | exact ⟨rfl, rfl⟩ | rfl | (refine ⟨?_, ?_⟩ <;> first | rfl | omega | grind [hs_, hf_]) | grind [hs_, hf_]
      · refine G_aload_n (i := 0) dX12_walk_67 rfl rfl ?_
        refine G_getI (v := h 81 15) fX12_57 rfl dX12_walk_68 (o81 hT) rfl ?_
        refine G_bipush dX12_walk_71 (by decide) ?_
        refine G_icmp_ne (tgt := 79) dX12_walk_73 (by decide) (by omega) (by decide) (fun c_3 => ?_) (fun c_3 => ?_)
        · refine G_iconst dX12_walk_79 ?_
          refine G_istore_n (i := 3) (ls' := [some (.inr (some 81)), some (.inl w), some (.inl (10 + (h 81 15).tdiv 3)), some (.inl 0)]) dX12_walk_80 rfl (by decide) rfl ?_
          have hx : ¬ ∃ k, k < (h 81 1).toNat ∧ h 88 k < 10 + (h 81 15).tdiv 3 := by rintro ⟨k, k1, k2⟩; exact hj k (by omega) k2
          have := m_walk_L2 d τ h hT w r_w (by omega) (by omega) (by omega) _ 0 (Nat.lt_succ_self _) (by omega)
          rw [f_w10] at this
          refine G_mono ?_ this
          rintro r τ' h' ⟨q1, v, q2, rfl, rfl⟩
          refine ⟨q1, _, q2, ?_⟩
          unfold f_walk; (repeat (first | rw [if_pos (by first | assumption | omega)] | rw [if_neg (by first | assumption | omega)])); first | exact ⟨rfl, rfl⟩ | rfl | (refine ⟨?_, ?_⟩ <;> first | rfl | omega | grind [hs_, hf_]) | grind [hs_, hf_]
        · refine G_bipush dX12_walk_76 (by decide) ?_
          refine G_iretZ rfl dX12_walk_78 ?_
          have hx : ¬ ∃ k, k < (h 81 1).toNat ∧ h 88 k < 10 + (h 81 15).tdiv 3 := by rintro ⟨k, k1, k2⟩; exact hj k (by omega) k2
          unfold f_walk; (repeat (first | rw [if_pos (by first | assumption | omega)] | rw [if_neg (by first | assumption | omega)])); first | exact ⟨rfl, rfl⟩ | rfl | (refine ⟨?_, ?_⟩ <;> first | rfl | omega | grind [hs_, hf_]) | grind [hs_, hf_]
    · refine G_aload_n (i := 0) dX12_walk_38 rfl rfl ?_
      refine G_getR fX12_35 rfl dX12_walk_39 (o81 hT) (r81_8 hT) ?_
      refine G_iload_n (i := 3) dX12_walk_42 rfl rfl ?_
      refine G_iald (v := h 88 i) dX12_walk_43 (o88 hT) (by omega) rfl ?_
      have e_ := hl i (by omega)
      refine G_iload_n (i := 2) dX12_walk_44 rfl rfl ?_
      refine G_icmp_ge (tgt := 51) dX12_walk_45 (by decide) (by omega) (by omega) (fun c_4 => ?_) (fun c_4 => ?_)
      · refine G_iinc (ls' := [some (.inr (some 81)), some (.inl w), some (.inl (10 + (h 81 15).tdiv 3)), some (.inl ((i : Int) + 1))]) dX12_walk_51 (by decide) rfl rfl ?_
        refine G_goto (tgt := 30) dX12_walk_54 (by decide) ?_
        exact ih (i + 1) (by omega) (by omega) (by intro j hj2; rcases Nat.lt_succ_iff_lt_or_eq.mp hj2 with z | z; exact hj j z; subst z; omega)
      · refine G_bipush dX12_walk_48 (by decide) ?_
        refine G_iretZ rfl dX12_walk_50 ?_
        have hx : ∃ k, k < (h 81 1).toNat ∧ h 88 k < 10 + (h 81 15).tdiv 3 := ⟨i, by omega, by omega⟩
        unfold f_walk; (repeat (first | rw [if_pos (by first | assumption | omega)] | rw [if_neg (by first | assumption | omega)])); first | exact ⟨rfl, rfl⟩ | rfl | (refine ⟨?_, ?_⟩ <;> first | rfl | omega | grind [hs_, hf_]) | grind [hs_, hf_]

theorem m_walk (d : Nat) (τ : TT) (h : HT) (hT : TK τ) (w : Int) (r_w : -2147483648 ≤ w ∧ w ≤ 2147483647) (hd : 0 ≤ h 81 11 ∧ h 81 11 ≤ 1) (hx : h 81 11 ≠ 0 → 3 ≤ h 81 1 ∧ h 81 1 ≤ 9) (hr : 0 ≤ h 81 15 ∧ h 81 15 ≤ 100) (hst : 0 ≤ h 81 14 ∧ h 81 14 ≤ 300) (hl : ∀ k : Nat, k < 9 → 0 ≤ h 88 k ∧ h 88 k ≤ 99999) : S_ mX12_walk (d + 1) 0 0 [.inr (some 81), .inl w] τ h (Zi τ fun v h' => v = (f_walk h w).1 ∧ h' = (f_walk h w).2) := by
  refine S_go (k := 2) (ls := [some (.inr (some 81)), some (.inl w), none, none]) (by decide) rfl (Nat.le_of_ble_eq_true rfl) rfl ?_
  refine G_aload_n (i := 0) dX12_walk_0 rfl rfl ?_
  refine G_iload_n (i := 1) dX12_walk_1 rfl rfl ?_
  refine G_iconst dX12_walk_2 ?_
  refine G_iconst dX12_walk_3 ?_
  refine G_cVq (as := [.inl w, .inl 0, .inl 1]) qX12_195 (m_in d τ _ 81 w 0 1 (by omega) (by decide) (by decide)) rfl rfl (Nat.le_of_ble_eq_true rfl) (o81 hT) dX12_walk_4 ?_
  refine G_ifb_ne (tgt := 13) dX12_walk_7 (by decide) (fun c_1 => ?_) (fun c_1 => ?_)
  · refine G_aload_n (i := 0) dX12_walk_13 rfl rfl ?_
    refine G_getI (v := h 81 11) fX12_44 rfl dX12_walk_14 (o81 hT) rfl ?_
    refine G_if_ne (tgt := 23) dX12_walk_17 (by decide) (by omega) (fun c_2 => ?_) (fun c_2 => ?_)
    · refine G_aload_n (i := 0) dX12_walk_23 rfl rfl ?_
      refine G_cVq (as := []) qX12_211 (m_girth d τ h hT (by first | omega | grind [hs_, hf_])) rfl rfl (Nat.le_of_ble_eq_true rfl) (o81 hT) dX12_walk_24 ?_
      refine G_istore_n (i := 2) (ls' := [some (.inr (some 81)), some (.inl w), some (.inl (10 + (h 81 15).tdiv 3)), none]) dX12_walk_27 rfl (by decide) rfl ?_
      refine G_iconst dX12_walk_28 ?_
      refine G_istore_n (i := 3) (ls' := [some (.inr (some 81)), some (.inl w), some (.inl (10 + (h 81 15).tdiv 3)), some (.inl 0)]) dX12_walk_29 rfl (by decide) rfl ?_
      exact m_walk_L1 d τ h hT w r_w (hx (by omega)) hd hr hst hl (by omega) (by omega) _ 0 (Nat.lt_succ_self _) (by have := hx (by omega); omega) (by intro j hj; omega)
    · refine G_bipush dX12_walk_20 (by decide) ?_
      refine G_iretZ rfl dX12_walk_22 ?_
      unfold f_walk; (repeat (first | rw [if_pos (by first | assumption | omega)] | rw [if_neg (by first | assumption | omega)])); first | exact ⟨rfl, rfl⟩ | rfl | (refine ⟨?_, ?_⟩ <;> first | rfl | omega | grind [hs_, hf_]) | grind [hs_, hf_]
  · refine G_bipush dX12_walk_10 (by decide) ?_
    refine G_iretZ rfl dX12_walk_12 ?_
    unfold f_walk; (repeat (first | rw [if_pos (by first | assumption | omega)] | rw [if_neg (by first | assumption | omega)])); first | exact ⟨rfl, rfl⟩ | rfl | (refine ⟨?_, ?_⟩ <;> first | rfl | omega | grind [hs_, hf_]) | grind [hs_, hf_]

