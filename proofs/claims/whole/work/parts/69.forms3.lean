/-! forms: the class -/
def FRm (a : Nat) (h h' : HT) : Prop := ∀ b j : Nat, ¬ (a ≤ b ∧ b ≤ a + 4) → h' b j = h b j
theorem FRm.rf {a : Nat} {h : HT} : FRm a h h := fun _ _ _ => rfl
theorem FRm.tr {a : Nat} {h g k : HT} (x : FRm a h g) (y : FRm a g k) : FRm a h k := fun b j z => (y b j z).trans (x b j z)
abbrev WIa (n : Int) (h : HT) (a m : Nat) (F : Nat → Int) : Prop := WI n (h a 4).toNat (h (a + 2)) (h (a + 3)) (h (a + 4)) m F
theorem x_meet (d : Nat) (τ : TT) (h : HT) (hT : TK τ) (a : Nat) (hF : FM τ a) (n p how : Int) (hn : 3 ≤ n ∧ n ≤ 9) (hp : 0 ≤ p ∧ p < n) (hh : how = 0 ∨ how = 1) (hl : 0 ≤ h a 4 ∧ h a 4 < 300) (m : Nat) (F : Nat → Int) (w : WIa n h a m F) : S_ mX3_meet (d + 1) 0 0 [.inr (some a), .inl p, .inl how, .inl n] τ h (Zv τ fun h' => WIa n h' a (w_m n m F (10 * p + how)) (w_F n m F (10 * p + how)) ∧ (0 ≤ h' a 4 ∧ h' a 4 ≤ h a 4 + 1) ∧ h' a 0 = h a 0 ∧ FRm a h h') := by
  have bh := x_bh_r hp
  have ah := x_ah_r hp
  have ep := w.ed p.toNat (by omega)
  have eb := w.ed (x_bh n p).toNat (by omega)
  have ea := w.ed (x_ah n p).toNat (by omega)
  have ew : 0 ≤ h (a + 4) p.toNat → -1 ≤ h (a + 2) (h (a + 4) p.toNat).toNat ∧ h (a + 2) (h (a + 4) p.toNat).toNat ≤ 99 := fun z => w.lo _ (by omega)
  have tm := tm_r (h (a + 2) (h (a + 4) p.toNat).toNat) (n := 10) (by decide)
  refine S_go (k := 1) (ls := [some (.inr (some a)), some (.inl p), some (.inl how), some (.inl n), none]) (by decide) rfl (Nat.le_of_ble_eq_true rfl) rfl ?_
  refine G_aload_n (i := 0) dX3_meet_0 rfl rfl ?_
  refine G_getR fX3_31 rfl dX3_meet_1 hF.1 hF.2.2.2.2.2.2.2.2 ?_
  refine G_iload_n (i := 1) dX3_meet_4 rfl rfl ?_
  refine G_iald (v := h (a + 4) ((p).toNat)) dX3_meet_5 hF.2.2.2.2.1 (by omega) rfl ?_
  refine G_istore (ls' := [some (.inr (some a)), some (.inl p), some (.inl how), some (.inl n), some (.inl (h (a + 4) ((p).toNat)))]) dX3_meet_6 (by decide) rfl ?_
  refine G_iload dX3_meet_8 rfl ?_
  refine G_if_lt (tgt := 79) dX3_meet_10 (by decide) (by omega) (fun c_1 => ?_) (fun c_1 => ?_)
  · refine G_aload_n (i := 0) dX3_meet_79 rfl rfl ?_
    refine G_getR fX3_22 rfl dX3_meet_80 hF.1 hF.2.2.2.2.2.2.1 ?_
    refine G_aload_n (i := 0) dX3_meet_83 rfl rfl ?_
    refine G_getI (v := h a 4) fX3_25 rfl dX3_meet_84 hF.1 rfl ?_
    refine G_bipush dX3_meet_87 (by decide) ?_
    refine G_iload_n (i := 1) dX3_meet_89 rfl rfl ?_
    refine G_imul dX3_meet_90 ?_
    refine G_iload_n (i := 2) dX3_meet_91 rfl rfl ?_
    refine G_iadd dX3_meet_92 ?_
    refine G_iastk ((h a 4).toNat) dX3_meet_93 hF.2.2.1 (by omega) rfl ?_
    refine G_aload_n (i := 0) dX3_meet_94 rfl rfl ?_
    refine G_getR fX3_28 rfl dX3_meet_95 hF.1 hF.2.2.2.2.2.2.2.1 ?_
    refine G_aload_n (i := 0) dX3_meet_98 rfl rfl ?_
    refine G_getI (v := h a 4) fX3_25 rfl dX3_meet_99 hF.1 (hs_na (by omega)) ?_
    refine G_iload dX3_meet_102 rfl ?_
    refine G_iastk ((h a 4).toNat) dX3_meet_104 hF.2.2.2.1 (by omega) rfl ?_
    refine G_aload_n (i := 0) dX3_meet_105 rfl rfl ?_
    refine G_getR fX3_31 rfl dX3_meet_106 hF.1 hF.2.2.2.2.2.2.2.2 ?_
    refine G_iload_n (i := 1) dX3_meet_109 rfl rfl ?_
    refine G_aload_n (i := 0) dX3_meet_110 rfl rfl ?_
    refine G_getI (v := h a 4) fX3_25 rfl dX3_meet_111 hF.1 ((hs_na (by omega)).trans (hs_na (by omega))) ?_
    refine G_iastk ((p).toNat) dX3_meet_114 hF.2.2.2.2.1 (by omega) rfl ?_
    refine G_aload_n (i := 0) dX3_meet_115 rfl rfl ?_
    refine G_dup dX3_meet_116 ?_
    refine G_getI (v := h a 4) fX3_25 rfl dX3_meet_117 hF.1 ((hs_na (by omega)).trans ((hs_na (by omega)).trans (hs_na (by omega)))) ?_
    refine G_iconst dX3_meet_120 ?_
    refine G_iadd dX3_meet_121 ?_
    refine G_putI fX3_25 dX3_meet_122 hF.1 ?_
    refine G_vretZ rfl dX3_meet_125 ?_
    refine ⟨?_, ⟨(by unfold hs_; (repeat (first | rw [if_pos (by omega)] | rw [if_neg (by omega)])); try omega), (by unfold hs_; (repeat (first | rw [if_pos (by omega)] | rw [if_neg (by omega)])); try omega)⟩, (by unfold hs_; (repeat (first | rw [if_pos (by omega)] | rw [if_neg (by omega)])); try omega), fun b j z => (by unfold hs_; (repeat (first | rw [if_pos (by omega)] | rw [if_neg (by omega)])); try omega)⟩
    rw [WIa, show ((hs_ (hs_ (hs_ (hs_ h (a + 2) ((h a 4).toNat) ((10 * p) + how)) (a + 3) ((h a 4).toNat) (h (a + 4) ((p).toNat))) (a + 4) ((p).toNat) (h a 4)) a 4 ((h a 4) + 1)) a 4).toNat = (h a 4).toNat + 1 from (by unfold hs_; (repeat (first | rw [if_pos (by omega)] | rw [if_neg (by omega)])); try omega)]
    exact WI.add w hn hp hh (fun q => by have := (w.hit hn hp hh).mp q; omega) (fun i hi => (by unfold hs_; (repeat (first | rw [if_pos (by omega)] | rw [if_neg (by omega)])); try omega)) (by unfold hs_; (repeat (first | rw [if_pos (by omega)] | rw [if_neg (by omega)])); try omega) (fun i hi => (by unfold hs_; (repeat (first | rw [if_pos (by omega)] | rw [if_neg (by omega)])); try omega)) (by unfold hs_; (repeat (first | rw [if_pos (by omega)] | rw [if_neg (by omega)])); try omega) (fun q hq ne => (by unfold hs_; (repeat (first | rw [if_pos (by omega)] | rw [if_neg (by omega)])); try omega)) (by unfold hs_; (repeat (first | rw [if_pos (by omega)] | rw [if_neg (by omega)])); try omega)
  · refine G_aload_n (i := 0) dX3_meet_13 rfl rfl ?_
    refine G_getR fX3_22 rfl dX3_meet_14 hF.1 hF.2.2.2.2.2.2.1 ?_
    refine G_iload dX3_meet_17 rfl ?_
    refine G_iald (v := h (a + 2) ((h (a + 4) ((p).toNat)).toNat)) dX3_meet_19 hF.2.2.1 (by omega) rfl ?_
    refine G_bipush dX3_meet_20 (by decide) ?_
    refine G_irem dX3_meet_22 (by omega) (by decide) ?_
    refine G_iload_n (i := 2) dX3_meet_23 rfl rfl ?_
    refine G_icmp_eq (tgt := 79) dX3_meet_24 (by decide) (by omega) (by omega) (fun c_2 => ?_) (fun c_2 => ?_)
    · refine G_aload_n (i := 0) dX3_meet_79 rfl rfl ?_
      refine G_getR fX3_22 rfl dX3_meet_80 hF.1 hF.2.2.2.2.2.2.1 ?_
      refine G_aload_n (i := 0) dX3_meet_83 rfl rfl ?_
      refine G_getI (v := h a 4) fX3_25 rfl dX3_meet_84 hF.1 rfl ?_
      refine G_bipush dX3_meet_87 (by decide) ?_
      refine G_iload_n (i := 1) dX3_meet_89 rfl rfl ?_
      refine G_imul dX3_meet_90 ?_
      refine G_iload_n (i := 2) dX3_meet_91 rfl rfl ?_
      refine G_iadd dX3_meet_92 ?_
      refine G_iastk ((h a 4).toNat) dX3_meet_93 hF.2.2.1 (by omega) rfl ?_
      refine G_aload_n (i := 0) dX3_meet_94 rfl rfl ?_
      refine G_getR fX3_28 rfl dX3_meet_95 hF.1 hF.2.2.2.2.2.2.2.1 ?_
      refine G_aload_n (i := 0) dX3_meet_98 rfl rfl ?_
      refine G_getI (v := h a 4) fX3_25 rfl dX3_meet_99 hF.1 (hs_na (by omega)) ?_
      refine G_iload dX3_meet_102 rfl ?_
      refine G_iastk ((h a 4).toNat) dX3_meet_104 hF.2.2.2.1 (by omega) rfl ?_
      refine G_aload_n (i := 0) dX3_meet_105 rfl rfl ?_
      refine G_getR fX3_31 rfl dX3_meet_106 hF.1 hF.2.2.2.2.2.2.2.2 ?_
      refine G_iload_n (i := 1) dX3_meet_109 rfl rfl ?_
      refine G_aload_n (i := 0) dX3_meet_110 rfl rfl ?_
      refine G_getI (v := h a 4) fX3_25 rfl dX3_meet_111 hF.1 ((hs_na (by omega)).trans (hs_na (by omega))) ?_
      refine G_iastk ((p).toNat) dX3_meet_114 hF.2.2.2.2.1 (by omega) rfl ?_
      refine G_aload_n (i := 0) dX3_meet_115 rfl rfl ?_
      refine G_dup dX3_meet_116 ?_
      refine G_getI (v := h a 4) fX3_25 rfl dX3_meet_117 hF.1 ((hs_na (by omega)).trans ((hs_na (by omega)).trans (hs_na (by omega)))) ?_
      refine G_iconst dX3_meet_120 ?_
      refine G_iadd dX3_meet_121 ?_
      refine G_putI fX3_25 dX3_meet_122 hF.1 ?_
      refine G_vretZ rfl dX3_meet_125 ?_
      refine ⟨?_, ⟨(by unfold hs_; (repeat (first | rw [if_pos (by omega)] | rw [if_neg (by omega)])); try omega), (by unfold hs_; (repeat (first | rw [if_pos (by omega)] | rw [if_neg (by omega)])); try omega)⟩, (by unfold hs_; (repeat (first | rw [if_pos (by omega)] | rw [if_neg (by omega)])); try omega), fun b j z => (by unfold hs_; (repeat (first | rw [if_pos (by omega)] | rw [if_neg (by omega)])); try omega)⟩
      rw [WIa, show ((hs_ (hs_ (hs_ (hs_ h (a + 2) ((h a 4).toNat) ((10 * p) + how)) (a + 3) ((h a 4).toNat) (h (a + 4) ((p).toNat))) (a + 4) ((p).toNat) (h a 4)) a 4 ((h a 4) + 1)) a 4).toNat = (h a 4).toNat + 1 from (by unfold hs_; (repeat (first | rw [if_pos (by omega)] | rw [if_neg (by omega)])); try omega)]
      exact WI.add w hn hp hh (fun q => by have := (w.hit hn hp hh).mp q; omega) (fun i hi => (by unfold hs_; (repeat (first | rw [if_pos (by omega)] | rw [if_neg (by omega)])); try omega)) (by unfold hs_; (repeat (first | rw [if_pos (by omega)] | rw [if_neg (by omega)])); try omega) (fun i hi => (by unfold hs_; (repeat (first | rw [if_pos (by omega)] | rw [if_neg (by omega)])); try omega)) (by unfold hs_; (repeat (first | rw [if_pos (by omega)] | rw [if_neg (by omega)])); try omega) (fun q hq ne => (by unfold hs_; (repeat (first | rw [if_pos (by omega)] | rw [if_neg (by omega)])); try omega)) (by unfold hs_; (repeat (first | rw [if_pos (by omega)] | rw [if_neg (by omega)])); try omega)
    · refine G_aload_n (i := 0) dX3_meet_27 rfl rfl ?_
      refine G_getR fX3_31 rfl dX3_meet_28 hF.1 hF.2.2.2.2.2.2.2.2 ?_
      refine G_iload_n (i := 1) dX3_meet_31 rfl rfl ?_
      refine G_iload_n (i := 3) dX3_meet_32 rfl rfl ?_
      refine G_cNq (as := [.inl p, .inl n]) qX3_63 (x_behind d τ h p n (by omega) (by omega)) rfl rfl (Nat.le_of_ble_eq_true rfl) dX3_meet_33 ?_
      refine G_iald (v := h (a + 4) ((x_bh n p).toNat)) dX3_meet_36 hF.2.2.2.2.1 (by omega) rfl ?_
      refine G_iload dX3_meet_37 rfl ?_
      refine G_icmp_ge (tgt := 79) dX3_meet_39 (by decide) (by omega) (by omega) (fun c_3 => ?_) (fun c_3 => ?_)
      · refine G_aload_n (i := 0) dX3_meet_79 rfl rfl ?_
        refine G_getR fX3_22 rfl dX3_meet_80 hF.1 hF.2.2.2.2.2.2.1 ?_
        refine G_aload_n (i := 0) dX3_meet_83 rfl rfl ?_
        refine G_getI (v := h a 4) fX3_25 rfl dX3_meet_84 hF.1 rfl ?_
        refine G_bipush dX3_meet_87 (by decide) ?_
        refine G_iload_n (i := 1) dX3_meet_89 rfl rfl ?_
        refine G_imul dX3_meet_90 ?_
        refine G_iload_n (i := 2) dX3_meet_91 rfl rfl ?_
        refine G_iadd dX3_meet_92 ?_
        refine G_iastk ((h a 4).toNat) dX3_meet_93 hF.2.2.1 (by omega) rfl ?_
        refine G_aload_n (i := 0) dX3_meet_94 rfl rfl ?_
        refine G_getR fX3_28 rfl dX3_meet_95 hF.1 hF.2.2.2.2.2.2.2.1 ?_
        refine G_aload_n (i := 0) dX3_meet_98 rfl rfl ?_
        refine G_getI (v := h a 4) fX3_25 rfl dX3_meet_99 hF.1 (hs_na (by omega)) ?_
        refine G_iload dX3_meet_102 rfl ?_
        refine G_iastk ((h a 4).toNat) dX3_meet_104 hF.2.2.2.1 (by omega) rfl ?_
        refine G_aload_n (i := 0) dX3_meet_105 rfl rfl ?_
        refine G_getR fX3_31 rfl dX3_meet_106 hF.1 hF.2.2.2.2.2.2.2.2 ?_
        refine G_iload_n (i := 1) dX3_meet_109 rfl rfl ?_
        refine G_aload_n (i := 0) dX3_meet_110 rfl rfl ?_
        refine G_getI (v := h a 4) fX3_25 rfl dX3_meet_111 hF.1 ((hs_na (by omega)).trans (hs_na (by omega))) ?_
        refine G_iastk ((p).toNat) dX3_meet_114 hF.2.2.2.2.1 (by omega) rfl ?_
        refine G_aload_n (i := 0) dX3_meet_115 rfl rfl ?_
        refine G_dup dX3_meet_116 ?_
        refine G_getI (v := h a 4) fX3_25 rfl dX3_meet_117 hF.1 ((hs_na (by omega)).trans ((hs_na (by omega)).trans (hs_na (by omega)))) ?_
        refine G_iconst dX3_meet_120 ?_
        refine G_iadd dX3_meet_121 ?_
        refine G_putI fX3_25 dX3_meet_122 hF.1 ?_
        refine G_vretZ rfl dX3_meet_125 ?_
        refine ⟨?_, ⟨(by unfold hs_; (repeat (first | rw [if_pos (by omega)] | rw [if_neg (by omega)])); try omega), (by unfold hs_; (repeat (first | rw [if_pos (by omega)] | rw [if_neg (by omega)])); try omega)⟩, (by unfold hs_; (repeat (first | rw [if_pos (by omega)] | rw [if_neg (by omega)])); try omega), fun b j z => (by unfold hs_; (repeat (first | rw [if_pos (by omega)] | rw [if_neg (by omega)])); try omega)⟩
        rw [WIa, show ((hs_ (hs_ (hs_ (hs_ h (a + 2) ((h a 4).toNat) ((10 * p) + how)) (a + 3) ((h a 4).toNat) (h (a + 4) ((p).toNat))) (a + 4) ((p).toNat) (h a 4)) a 4 ((h a 4) + 1)) a 4).toNat = (h a 4).toNat + 1 from (by unfold hs_; (repeat (first | rw [if_pos (by omega)] | rw [if_neg (by omega)])); try omega)]
        exact WI.add w hn hp hh (fun q => by have := (w.hit hn hp hh).mp q; omega) (fun i hi => (by unfold hs_; (repeat (first | rw [if_pos (by omega)] | rw [if_neg (by omega)])); try omega)) (by unfold hs_; (repeat (first | rw [if_pos (by omega)] | rw [if_neg (by omega)])); try omega) (fun i hi => (by unfold hs_; (repeat (first | rw [if_pos (by omega)] | rw [if_neg (by omega)])); try omega)) (by unfold hs_; (repeat (first | rw [if_pos (by omega)] | rw [if_neg (by omega)])); try omega) (fun q hq ne => (by unfold hs_; (repeat (first | rw [if_pos (by omega)] | rw [if_neg (by omega)])); try omega)) (by unfold hs_; (repeat (first | rw [if_pos (by omega)] | rw [if_neg (by omega)])); try omega)
      · refine G_aload_n (i := 0) dX3_meet_42 rfl rfl ?_
        refine G_getR fX3_31 rfl dX3_meet_43 hF.1 hF.2.2.2.2.2.2.2.2 ?_
        refine G_iload_n (i := 1) dX3_meet_46 rfl rfl ?_
        refine G_iload_n (i := 3) dX3_meet_47 rfl rfl ?_
        refine G_cNq (as := [.inl p, .inl n]) qX3_66 (x_ahead d τ h p n (by omega) (by omega)) rfl rfl (Nat.le_of_ble_eq_true rfl) dX3_meet_48 ?_
        refine G_iald (v := h (a + 4) ((x_ah n p).toNat)) dX3_meet_51 hF.2.2.2.2.1 (by omega) rfl ?_
        refine G_iload dX3_meet_52 rfl ?_
        refine G_icmp_ge (tgt := 79) dX3_meet_54 (by decide) (by omega) (by omega) (fun c_4 => ?_) (fun c_4 => ?_)
        · refine G_aload_n (i := 0) dX3_meet_79 rfl rfl ?_
          refine G_getR fX3_22 rfl dX3_meet_80 hF.1 hF.2.2.2.2.2.2.1 ?_
          refine G_aload_n (i := 0) dX3_meet_83 rfl rfl ?_
          refine G_getI (v := h a 4) fX3_25 rfl dX3_meet_84 hF.1 rfl ?_
          refine G_bipush dX3_meet_87 (by decide) ?_
          refine G_iload_n (i := 1) dX3_meet_89 rfl rfl ?_
          refine G_imul dX3_meet_90 ?_
          refine G_iload_n (i := 2) dX3_meet_91 rfl rfl ?_
          refine G_iadd dX3_meet_92 ?_
          refine G_iastk ((h a 4).toNat) dX3_meet_93 hF.2.2.1 (by omega) rfl ?_
          refine G_aload_n (i := 0) dX3_meet_94 rfl rfl ?_
          refine G_getR fX3_28 rfl dX3_meet_95 hF.1 hF.2.2.2.2.2.2.2.1 ?_
          refine G_aload_n (i := 0) dX3_meet_98 rfl rfl ?_
          refine G_getI (v := h a 4) fX3_25 rfl dX3_meet_99 hF.1 (hs_na (by omega)) ?_
          refine G_iload dX3_meet_102 rfl ?_
          refine G_iastk ((h a 4).toNat) dX3_meet_104 hF.2.2.2.1 (by omega) rfl ?_
          refine G_aload_n (i := 0) dX3_meet_105 rfl rfl ?_
          refine G_getR fX3_31 rfl dX3_meet_106 hF.1 hF.2.2.2.2.2.2.2.2 ?_
          refine G_iload_n (i := 1) dX3_meet_109 rfl rfl ?_
          refine G_aload_n (i := 0) dX3_meet_110 rfl rfl ?_
          refine G_getI (v := h a 4) fX3_25 rfl dX3_meet_111 hF.1 ((hs_na (by omega)).trans (hs_na (by omega))) ?_
          refine G_iastk ((p).toNat) dX3_meet_114 hF.2.2.2.2.1 (by omega) rfl ?_
          refine G_aload_n (i := 0) dX3_meet_115 rfl rfl ?_
          refine G_dup dX3_meet_116 ?_
          refine G_getI (v := h a 4) fX3_25 rfl dX3_meet_117 hF.1 ((hs_na (by omega)).trans ((hs_na (by omega)).trans (hs_na (by omega)))) ?_
          refine G_iconst dX3_meet_120 ?_
          refine G_iadd dX3_meet_121 ?_
          refine G_putI fX3_25 dX3_meet_122 hF.1 ?_
          refine G_vretZ rfl dX3_meet_125 ?_
          refine ⟨?_, ⟨(by unfold hs_; (repeat (first | rw [if_pos (by omega)] | rw [if_neg (by omega)])); try omega), (by unfold hs_; (repeat (first | rw [if_pos (by omega)] | rw [if_neg (by omega)])); try omega)⟩, (by unfold hs_; (repeat (first | rw [if_pos (by omega)] | rw [if_neg (by omega)])); try omega), fun b j z => (by unfold hs_; (repeat (first | rw [if_pos (by omega)] | rw [if_neg (by omega)])); try omega)⟩
          rw [WIa, show ((hs_ (hs_ (hs_ (hs_ h (a + 2) ((h a 4).toNat) ((10 * p) + how)) (a + 3) ((h a 4).toNat) (h (a + 4) ((p).toNat))) (a + 4) ((p).toNat) (h a 4)) a 4 ((h a 4) + 1)) a 4).toNat = (h a 4).toNat + 1 from (by unfold hs_; (repeat (first | rw [if_pos (by omega)] | rw [if_neg (by omega)])); try omega)]
          exact WI.add w hn hp hh (fun q => by have := (w.hit hn hp hh).mp q; omega) (fun i hi => (by unfold hs_; (repeat (first | rw [if_pos (by omega)] | rw [if_neg (by omega)])); try omega)) (by unfold hs_; (repeat (first | rw [if_pos (by omega)] | rw [if_neg (by omega)])); try omega) (fun i hi => (by unfold hs_; (repeat (first | rw [if_pos (by omega)] | rw [if_neg (by omega)])); try omega)) (by unfold hs_; (repeat (first | rw [if_pos (by omega)] | rw [if_neg (by omega)])); try omega) (fun q hq ne => (by unfold hs_; (repeat (first | rw [if_pos (by omega)] | rw [if_neg (by omega)])); try omega)) (by unfold hs_; (repeat (first | rw [if_pos (by omega)] | rw [if_neg (by omega)])); try omega)
        · refine G_aload_n (i := 0) dX3_meet_57 rfl rfl ?_
          refine G_getR fX3_31 rfl dX3_meet_58 hF.1 hF.2.2.2.2.2.2.2.2 ?_
          refine G_iload_n (i := 1) dX3_meet_61 rfl rfl ?_
          refine G_aload_n (i := 0) dX3_meet_62 rfl rfl ?_
          refine G_getR fX3_28 rfl dX3_meet_63 hF.1 hF.2.2.2.2.2.2.2.1 ?_
          refine G_iload dX3_meet_66 rfl ?_
          refine G_iald (v := h (a + 3) ((h (a + 4) ((p).toNat)).toNat)) dX3_meet_68 hF.2.2.2.1 (by omega) rfl ?_
          refine G_iastk ((p).toNat) dX3_meet_69 hF.2.2.2.2.1 (by omega) rfl ?_
          refine G_aload_n (i := 0) dX3_meet_70 rfl rfl ?_
          refine G_getR fX3_22 rfl dX3_meet_71 hF.1 hF.2.2.2.2.2.2.1 ?_
          refine G_iload dX3_meet_74 rfl ?_
          refine G_iconst dX3_meet_76 ?_
          refine G_iastk ((h (a + 4) ((p).toNat)).toNat) dX3_meet_77 hF.2.2.1 (by omega) rfl ?_
          refine G_vretZ rfl dX3_meet_78 ?_
          refine ⟨?_, ⟨(by unfold hs_; (repeat (first | rw [if_pos (by omega)] | rw [if_neg (by omega)])); try omega), (by unfold hs_; (repeat (first | rw [if_pos (by omega)] | rw [if_neg (by omega)])); try omega)⟩, (by unfold hs_; (repeat (first | rw [if_pos (by omega)] | rw [if_neg (by omega)])); try omega), fun b j z => (by unfold hs_; (repeat (first | rw [if_pos (by omega)] | rw [if_neg (by omega)])); try omega)⟩
          rw [WIa, show ((hs_ (hs_ h (a + 4) ((p).toNat) (h (a + 3) ((h (a + 4) ((p).toNat)).toNat))) (a + 2) ((h (a + 4) ((p).toNat)).toNat) (-1)) a 4).toNat = (h a 4).toNat from (by unfold hs_; (repeat (first | rw [if_pos (by omega)] | rw [if_neg (by omega)])); try omega)]
          exact WI.cut w hn hp hh ((w.hit hn hp hh).mpr ⟨by omega, by omega, by omega, by omega⟩) (fun i hi ne => (by unfold hs_; (repeat (first | rw [if_pos (by omega)] | rw [if_neg (by omega)])); try omega)) (by unfold hs_; (repeat (first | rw [if_pos (by omega)] | rw [if_neg (by omega)])); try omega) (fun i hi => (by unfold hs_; (repeat (first | rw [if_pos (by omega)] | rw [if_neg (by omega)])); try omega)) (fun q hq ne => (by unfold hs_; (repeat (first | rw [if_pos (by omega)] | rw [if_neg (by omega)])); try omega)) (by unfold hs_; (repeat (first | rw [if_pos (by omega)] | rw [if_neg (by omega)])); try omega)

theorem x_linkF_L (d : Nat) (τ : TT) (h : HT) (hT : TK τ) (a : Nat) (hF : FM τ a) (n : Int) (hn : 3 ≤ n ∧ n ≤ 9) (hl : 0 ≤ h a 4 ∧ h a 4 ≤ 300) (hlo : ∀ i : Nat, i < (h a 4).toNat → (-1 ≤ h (a + 2) i ∧ h (a + 2) i ≤ 99) ∧ (0 ≤ h (a + 2) i → w_cd n (h (a + 2) i))) : ∀ (n_ : Nat) (g : HT) (k : Int), (k + 1).toNat < n_ → -1 ≤ k ∧ k < h a 4 → (∀ b j : Nat, b ≠ a + 3 → b ≠ a + 4 → g b j = h b j) → LF n (h a 4).toNat (k + 1).toNat (h (a + 2)) (g (a + 3)) (g (a + 4)) → G_ mX3_linkForward (d + 1) 0 0 17 [some (.inr (some a)), some (.inl k), none] [] τ g (Zv τ fun h' => LF n (h a 4).toNat 0 (h (a + 2)) (h' (a + 3)) (h' (a + 4)) ∧ ∀ b j : Nat, b ≠ a + 3 → b ≠ a + 4 → h' b j = h b j) := by
  intro n_
  induction n_ with
  | zero => intro g k hm_; exact absurd hm_ (Nat.not_lt_zero _)
  | succ n_ ih =>
    intro g k hm_ hk fr lf
    have eW : ∀ j, g (a + 2) j = h (a + 2) j := fun j => fr _ j (by omega) (by omega)
    refine G_iload_n (i := 1) dX3_linkForward_17 rfl rfl ?_
    refine G_if_lt (tgt := 65) dX3_linkForward_18 (by decide) (by omega) (fun c_1 => ?_) (fun c_1 => ?_)
    · refine G_vretZ rfl dX3_linkForward_65 ?_
      obtain rfl : k = -1 := by omega
      exact ⟨lf, fr⟩
    · refine G_aload_n (i := 0) dX3_linkForward_21 rfl rfl ?_
      refine G_getR fX3_22 rfl dX3_linkForward_22 hF.1 hF.2.2.2.2.2.2.1 ?_
      refine G_iload_n (i := 1) dX3_linkForward_25 rfl rfl ?_
      refine G_iald (v := h (a + 2) ((k).toNat)) dX3_linkForward_26 hF.2.2.1 (by omega) (eW _) ?_
      have lo_ := hlo ((k).toNat) (by omega)
      refine G_if_lt (tgt := 59) dX3_linkForward_27 (by decide) (by omega) (fun c_2 => ?_) (fun c_2 => ?_)
      · refine G_iinc (ls' := [some (.inr (some a)), some (.inl (k + (-1))), none]) dX3_linkForward_59 (by decide) rfl rfl ?_
        refine G_goto (tgt := 17) dX3_linkForward_62 (by decide) ?_
        have ek : (k + 1).toNat = k.toNat + 1 := by omega
        rw [ek] at lf
        refine ih g (k + (-1)) (by omega) (by omega) fr ?_
        rw [show (k + (-1) + 1).toNat = k.toNat by omega]
        exact LF.no lf (by omega)
      · refine G_aload_n (i := 0) dX3_linkForward_30 rfl rfl ?_
        refine G_getR fX3_22 rfl dX3_linkForward_31 hF.1 hF.2.2.2.2.2.2.1 ?_
        refine G_iload_n (i := 1) dX3_linkForward_34 rfl rfl ?_
        refine G_iald (v := h (a + 2) ((k).toNat)) dX3_linkForward_35 hF.2.2.1 (by omega) (eW _) ?_
        have lo_ := hlo ((k).toNat) (by omega)
        have r_ := w_cd_r (lo_.2 (by omega))
        refine G_bipush dX3_linkForward_36 (by decide) ?_
        refine G_idiv dX3_linkForward_38 (by omega) (by decide) ?_
        refine G_istore_n (i := 2) (ls' := [some (.inr (some a)), some (.inl k), some (.inl ((h (a + 2) ((k).toNat)).tdiv 10))]) dX3_linkForward_39 rfl (by decide) rfl ?_
        refine G_aload_n (i := 0) dX3_linkForward_40 rfl rfl ?_
        refine G_getR fX3_28 rfl dX3_linkForward_41 hF.1 hF.2.2.2.2.2.2.2.1 ?_
        refine G_iload_n (i := 1) dX3_linkForward_44 rfl rfl ?_
        refine G_aload_n (i := 0) dX3_linkForward_45 rfl rfl ?_
        refine G_getR fX3_31 rfl dX3_linkForward_46 hF.1 hF.2.2.2.2.2.2.2.2 ?_
        refine G_iload_n (i := 2) dX3_linkForward_49 rfl rfl ?_
        refine G_iald (v := g (a + 4) (((h (a + 2) ((k).toNat)).tdiv 10).toNat)) dX3_linkForward_50 hF.2.2.2.2.1 (by omega) rfl ?_
        refine G_iastk ((k).toNat) dX3_linkForward_51 hF.2.2.2.1 (by omega) rfl ?_
        refine G_aload_n (i := 0) dX3_linkForward_52 rfl rfl ?_
        refine G_getR fX3_31 rfl dX3_linkForward_53 hF.1 hF.2.2.2.2.2.2.2.2 ?_
        refine G_iload_n (i := 2) dX3_linkForward_56 rfl rfl ?_
        refine G_iload_n (i := 1) dX3_linkForward_57 rfl rfl ?_
        refine G_iastk (((h (a + 2) ((k).toNat)).tdiv 10).toNat) dX3_linkForward_58 hF.2.2.2.2.1 (by omega) rfl ?_
        refine G_iinc (ls' := [some (.inr (some a)), some (.inl (k + (-1))), some (.inl ((h (a + 2) ((k).toNat)).tdiv 10))]) dX3_linkForward_59 (by decide) rfl rfl ?_
        refine G_goto (tgt := 17) dX3_linkForward_62 (by decide) ?_
        have ek : (k + 1).toNat = k.toNat + 1 := by omega
        rw [ek] at lf
        refine G_lsub (ls' := [some (.inr (some a)), some (.inl (k + (-1))), none]) (LS_same (LS_same (LS_none LS_nil))) ?_
        refine ih _ (k + (-1)) (by omega) (by omega) (fun b j b1 b2 => by rw [hs_na b2, hs_na b1]; exact fr b j b1 b2) ?_
        rw [show (k + (-1) + 1).toNat = k.toNat by omega]
        refine LF.yes (p := ((h (a + 2) k.toNat).tdiv 10).toNat) lf (by omega) (by omega) (by omega) (by omega) (by omega) (fun j ne => (by unfold hs_; (repeat (first | rw [if_pos (by omega)] | rw [if_neg (by omega)])); try omega)) (by unfold hs_; (repeat (first | rw [if_pos (by omega)] | rw [if_neg (by omega)])); try omega) (fun q ne => (by unfold hs_; (repeat (first | rw [if_pos (by omega)] | rw [if_neg (by omega)])); try omega)) (by unfold hs_; (repeat (first | rw [if_pos (by omega)] | rw [if_neg (by omega)])); try omega)

theorem x_linkForward (d : Nat) (τ : TT) (h : HT) (hT : TK τ) (a : Nat) (hF : FM τ a) (n : Int) (hn : 3 ≤ n ∧ n ≤ 9) (hl : 0 ≤ h a 4 ∧ h a 4 ≤ 300) (hlo : ∀ i : Nat, i < (h a 4).toNat → (-1 ≤ h (a + 2) i ∧ h (a + 2) i ≤ 99) ∧ (0 ≤ h (a + 2) i → w_cd n (h (a + 2) i))) : S_ mX3_linkForward (d + 1) 0 0 [.inr (some a)] τ h (Zv τ fun h' => LF n (h a 4).toNat 0 (h (a + 2)) (h' (a + 3)) (h' (a + 4)) ∧ ∀ b j : Nat, b ≠ a + 3 → b ≠ a + 4 → h' b j = h b j) := by
  refine S_go (k := 2) (ls := [some (.inr (some a)), none, none]) (by decide) rfl (Nat.le_of_ble_eq_true rfl) rfl ?_
  refine G_aload_n (i := 0) dX3_linkForward_0 rfl rfl ?_
  refine G_getR fX3_31 rfl dX3_linkForward_1 hF.1 hF.2.2.2.2.2.2.2.2 ?_
  refine G_sipush dX3_linkForward_4 (by decide) ?_
  refine G_cSv (as := [.inr (some (a + 4)), .inl 300]) qX3_34 (j_fill d τ h (a + 4) 9 hF.2.2.2.2.1 300) rfl rfl (Nat.le_of_ble_eq_true rfl) dX3_linkForward_7 (fun h' e' => ?_)
  subst e'
  refine G_aload_n (i := 0) dX3_linkForward_10 rfl rfl ?_
  refine G_getI (v := h a 4) fX3_25 rfl dX3_linkForward_11 hF.1 (hf_na (by omega)) ?_
  refine G_iconst dX3_linkForward_14 ?_
  refine G_isub dX3_linkForward_15 ?_
  refine G_istore_n (i := 1) (ls' := [some (.inr (some a)), some (.inl ((h a 4) - 1)), none]) dX3_linkForward_16 rfl (by decide) rfl ?_
  refine x_linkF_L d τ h hT a hF n hn hl hlo _ _ ((h a 4) - 1) (Nat.lt_succ_self _) (by omega) (fun b j b1 b2 => by rw [hf_na b2]) ⟨fun p hp => ?_, fun j j1 j2 => absurd j2 (by omega)⟩
  rw [hf_in (by omega)]
  exact ⟨by omega, by omega, fun q => absurd q (by decide), fun j j1 j2 => absurd j2 (by omega)⟩

abbrev x_fr (E : Nat → Int) (n : Int) (i : Nat) : Prop := E i < 300 ∧ E i < E (x_bh n (i : Int)).toNat ∧ E i < E (x_ah n (i : Int)).toNat
theorem x_leastFree_L (d : Nat) (τ : TT) (h : HT) (hT : TK τ) (a : Nat) (hF : FM τ a) (n : Int) (hn : 3 ≤ n ∧ n ≤ 9) (he : ∀ p : Nat, (p : Int) < n → 0 ≤ h (a + 4) p ∧ h (a + 4) p ≤ 300) : ∀ (n_ : Nat) (i : Nat), n.toNat - i < n_ → (i : Int) ≤ n → (∀ q : Nat, q < i → ¬ x_fr (h (a + 4)) n q) → G_ mX3_leastFree (d + 1) 0 0 2 [some (.inr (some a)), some (.inl n), some (.inl (i : Int)), none] [] τ h (Zi τ fun v h' => (∃ i : Nat, v = (i : Int) ∧ (i : Int) ≤ n ∧ ((i : Int) < n → x_fr (h (a + 4)) n i) ∧ ∀ q : Nat, q < i → ¬ x_fr (h (a + 4)) n q) ∧ h' = h) := by
  intro n_
  induction n_ with
  | zero => intro i hm_; exact absurd hm_ (Nat.not_lt_zero _)
  | succ n_ ih =>
    intro i hm_ hi hq
    refine G_iload_n (i := 2) dX3_leastFree_2 rfl rfl ?_
    refine G_iload_n (i := 1) dX3_leastFree_3 rfl rfl ?_
    have bh := fun z : (i : Int) < n => x_bh_r (n := n) (p := (i : Int)) ⟨by omega, z⟩
    have ah := fun z : (i : Int) < n => x_ah_r (n := n) (p := (i : Int)) ⟨by omega, z⟩
    refine G_icmp_ge (tgt := 57) dX3_leastFree_4 (by decide) (by omega) (by omega) (fun c_1 => ?_) (fun c_1 => ?_)
    · refine G_iload_n (i := 1) dX3_leastFree_57 rfl rfl ?_
      refine G_iretZ rfl dX3_leastFree_58 ?_
      exact ⟨⟨i, by omega, by omega, fun q => absurd q (by omega), hq⟩, rfl⟩
    · refine G_aload_n (i := 0) dX3_leastFree_7 rfl rfl ?_
      refine G_getR fX3_31 rfl dX3_leastFree_8 hF.1 hF.2.2.2.2.2.2.2.2 ?_
      have bh := x_bh_r (n := n) (p := (i : Int)) (by omega)
      have ah := x_ah_r (n := n) (p := (i : Int)) (by omega)
      have h0 := he i (by omega)
      have h1 := he (x_bh n (i : Int)).toNat (by omega)
      have h2 := he (x_ah n (i : Int)).toNat (by omega)
      refine G_iload_n (i := 2) dX3_leastFree_11 rfl rfl ?_
      refine G_iald (v := h (a + 4) i) dX3_leastFree_12 hF.2.2.2.2.1 (by omega) rfl ?_
      refine G_istore_n (i := 3) (ls' := [some (.inr (some a)), some (.inl n), some (.inl (i : Int)), some (.inl (h (a + 4) i))]) dX3_leastFree_13 rfl (by decide) rfl ?_
      refine G_iload_n (i := 3) dX3_leastFree_14 rfl rfl ?_
      refine G_sipush dX3_leastFree_15 (by decide) ?_
      refine G_icmp_ge (tgt := 51) dX3_leastFree_18 (by decide) (by omega) (by decide) (fun c_2 => ?_) (fun c_2 => ?_)
      · refine G_iinc (ls' := [some (.inr (some a)), some (.inl n), some (.inl ((i : Int) + 1)), some (.inl (h (a + 4) i))]) dX3_leastFree_51 (by decide) rfl rfl ?_
        refine G_goto (tgt := 2) dX3_leastFree_54 (by decide) ?_
        refine G_lsub (ls' := [some (.inr (some a)), some (.inl n), some (.inl ((i : Int) + 1)), none]) (LS_same (LS_same (LS_same (LS_none LS_nil)))) ?_
        refine ih (i + 1) (by omega) (by omega) (fun q q1 => ?_)
        by_cases z : q = i
        · subst z; exact fun y => (by omega)
        · exact hq q (by omega)
      · refine G_aload_n (i := 0) dX3_leastFree_21 rfl rfl ?_
        refine G_getR fX3_31 rfl dX3_leastFree_22 hF.1 hF.2.2.2.2.2.2.2.2 ?_
        refine G_iload_n (i := 2) dX3_leastFree_25 rfl rfl ?_
        refine G_iload_n (i := 1) dX3_leastFree_26 rfl rfl ?_
        refine G_cNq (as := [.inl (i : Int), .inl n]) qX3_63 (x_behind d τ h (i : Int) n (by omega) (by omega)) rfl rfl (Nat.le_of_ble_eq_true rfl) dX3_leastFree_27 ?_
        refine G_iald (v := h (a + 4) ((x_bh n (i : Int)).toNat)) dX3_leastFree_30 hF.2.2.2.2.1 (by omega) rfl ?_
        refine G_iload_n (i := 3) dX3_leastFree_31 rfl rfl ?_
        refine G_icmp_le (tgt := 51) dX3_leastFree_32 (by decide) (by omega) (by omega) (fun c_3 => ?_) (fun c_3 => ?_)
        · refine G_iinc (ls' := [some (.inr (some a)), some (.inl n), some (.inl ((i : Int) + 1)), some (.inl (h (a + 4) i))]) dX3_leastFree_51 (by decide) rfl rfl ?_
          refine G_goto (tgt := 2) dX3_leastFree_54 (by decide) ?_
          refine G_lsub (ls' := [some (.inr (some a)), some (.inl n), some (.inl ((i : Int) + 1)), none]) (LS_same (LS_same (LS_same (LS_none LS_nil)))) ?_
          refine ih (i + 1) (by omega) (by omega) (fun q q1 => ?_)
          by_cases z : q = i
          · subst z; exact fun y => (by omega)
          · exact hq q (by omega)
        · refine G_aload_n (i := 0) dX3_leastFree_35 rfl rfl ?_
          refine G_getR fX3_31 rfl dX3_leastFree_36 hF.1 hF.2.2.2.2.2.2.2.2 ?_
          refine G_iload_n (i := 2) dX3_leastFree_39 rfl rfl ?_
          refine G_iload_n (i := 1) dX3_leastFree_40 rfl rfl ?_
          refine G_cNq (as := [.inl (i : Int), .inl n]) qX3_66 (x_ahead d τ h (i : Int) n (by omega) (by omega)) rfl rfl (Nat.le_of_ble_eq_true rfl) dX3_leastFree_41 ?_
          refine G_iald (v := h (a + 4) ((x_ah n (i : Int)).toNat)) dX3_leastFree_44 hF.2.2.2.2.1 (by omega) rfl ?_
          refine G_iload_n (i := 3) dX3_leastFree_45 rfl rfl ?_
          refine G_icmp_le (tgt := 51) dX3_leastFree_46 (by decide) (by omega) (by omega) (fun c_4 => ?_) (fun c_4 => ?_)
          · refine G_iinc (ls' := [some (.inr (some a)), some (.inl n), some (.inl ((i : Int) + 1)), some (.inl (h (a + 4) i))]) dX3_leastFree_51 (by decide) rfl rfl ?_
            refine G_goto (tgt := 2) dX3_leastFree_54 (by decide) ?_
            refine G_lsub (ls' := [some (.inr (some a)), some (.inl n), some (.inl ((i : Int) + 1)), none]) (LS_same (LS_same (LS_same (LS_none LS_nil)))) ?_
            refine ih (i + 1) (by omega) (by omega) (fun q q1 => ?_)
            by_cases z : q = i
            · subst z; exact fun y => (by omega)
            · exact hq q (by omega)
          · refine G_iload_n (i := 2) dX3_leastFree_49 rfl rfl ?_
            refine G_iretZ rfl dX3_leastFree_50 ?_
            exact ⟨⟨i, rfl, by omega, fun _ => ⟨by omega, by omega, by omega⟩, hq⟩, rfl⟩

theorem x_leastFree (d : Nat) (τ : TT) (h : HT) (hT : TK τ) (a : Nat) (hF : FM τ a) (n : Int) (hn : 3 ≤ n ∧ n ≤ 9) (he : ∀ p : Nat, (p : Int) < n → 0 ≤ h (a + 4) p ∧ h (a + 4) p ≤ 300) : S_ mX3_leastFree (d + 1) 0 0 [.inr (some a), .inl n] τ h (Zi τ fun v h' => (∃ i : Nat, v = (i : Int) ∧ (i : Int) ≤ n ∧ ((i : Int) < n → x_fr (h (a + 4)) n i) ∧ ∀ q : Nat, q < i → ¬ x_fr (h (a + 4)) n q) ∧ h' = h) := by
  refine S_go (k := 2) (ls := [some (.inr (some a)), some (.inl n), none, none]) (by decide) rfl (Nat.le_of_ble_eq_true rfl) rfl ?_
  refine G_iconst dX3_leastFree_0 ?_
  refine G_istore_n (i := 2) (ls' := [some (.inr (some a)), some (.inl n), some (.inl 0), none]) dX3_leastFree_1 rfl (by decide) rfl ?_
  exact x_leastFree_L d τ h hT a hF n hn he _ 0 (Nat.lt_succ_self _) (by omega) (fun q q1 => absurd q1 (Nat.not_lt_zero _))

