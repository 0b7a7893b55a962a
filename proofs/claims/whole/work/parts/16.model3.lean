/-! the reference: the ring, the dance, its steps -/
def f_ringL (h : HT) (i : Nat) : HT := fun b j => if j < i then (if b = 85 then -5 else if b = 86 then (j : Int) else if b = 87 ∨ b = 88 ∨ b = 94 then 0 else h b j) else h b j
theorem f_ringL0 (h : HT) : f_ringL h 0 = h := by funext b j; grind [f_ringL]
theorem f_ringLs (h : HT) (i : Nat) : hs_ (hs_ (hs_ (hs_ (hs_ (f_ringL h i) 85 i (-5)) 86 i (i : Int)) 87 i 0) 88 i 0) 94 i 0 = f_ringL h (i + 1) := by funext b j; grind [f_ringL, hs_]
def f_ring (h : HT) (k : Int) : Int × HT := if ¬ (3 ≤ k ∧ k ≤ 9) then (-2, h) else if h 81 11 ≠ 0 then (-3, h) else (1, f_ringL (hs_ (hs_ (hs_ h 81 1 k) 81 14 0) 81 15 0) 9)
theorem m_ring_L (d : Nat) (τ : TT) (h : HT) (hT : TK τ) (k : Int) : ∀ (n_ : Nat) (i : Nat), 9 - i < n_ → i ≤ 9 → G_ mX12_ring (d + 1) 0 0 41 [some (.inr (some 81)), some (.inl k), some (.inl (i : Int))] [] τ (f_ringL h i) (Zi τ fun v h' => v = 1 ∧ h' = f_ringL h 9) := by
  intro n_
  induction n_ with
  | zero => intro i hm_; exact absurd hm_ (Nat.not_lt_zero _)
  | succ n_ ih =>
    intro i hm_ hi
    refine G_iload_n (i := 2) dX12_ring_41 rfl rfl ?_
    refine G_bipush dX12_ring_42 (by decide) ?_
    refine G_icmp_ge (tgt := 89) dX12_ring_44 (by decide) (by omega) (by decide) (fun c_1 => ?_) (fun c_1 => ?_)
    · refine G_iconst dX12_ring_89 ?_
      refine G_iretZ rfl dX12_ring_90 ?_
      exact ⟨rfl, by rw [show i = 9 by omega]⟩
    · refine G_aload_n (i := 0) dX12_ring_47 rfl rfl ?_
      refine G_getR fX12_26 rfl dX12_ring_48 (o81 hT) (r81_5 hT) ?_
      refine G_iload_n (i := 2) dX12_ring_51 rfl rfl ?_
      refine G_bipush dX12_ring_52 (by decide) ?_
      refine G_iastk i dX12_ring_54 (o85 hT) (by omega) rfl ?_
      refine G_aload_n (i := 0) dX12_ring_55 rfl rfl ?_
      refine G_getR fX12_29 rfl dX12_ring_56 (o81 hT) (r81_6 hT) ?_
      refine G_iload_n (i := 2) dX12_ring_59 rfl rfl ?_
      refine G_iload_n (i := 2) dX12_ring_60 rfl rfl ?_
      refine G_iastk i dX12_ring_61 (o86 hT) (by omega) rfl ?_
      refine G_aload_n (i := 0) dX12_ring_62 rfl rfl ?_
      refine G_getR fX12_32 rfl dX12_ring_63 (o81 hT) (r81_7 hT) ?_
      refine G_iload_n (i := 2) dX12_ring_66 rfl rfl ?_
      refine G_iconst dX12_ring_67 ?_
      refine G_iastk i dX12_ring_68 (o87 hT) (by omega) rfl ?_
      refine G_aload_n (i := 0) dX12_ring_69 rfl rfl ?_
      refine G_getR fX12_35 rfl dX12_ring_70 (o81 hT) (r81_8 hT) ?_
      refine G_iload_n (i := 2) dX12_ring_73 rfl rfl ?_
      refine G_iconst dX12_ring_74 ?_
      refine G_iastk i dX12_ring_75 (o88 hT) (by omega) rfl ?_
      refine G_aload_n (i := 0) dX12_ring_76 rfl rfl ?_
      refine G_getR fX12_63 rfl dX12_ring_77 (o81 hT) (r81_17 hT) ?_
      refine G_iload_n (i := 2) dX12_ring_80 rfl rfl ?_
      refine G_iconst dX12_ring_81 ?_
      refine G_iastk i dX12_ring_82 (o94 hT) (by omega) rfl ?_
      refine G_iinc (ls' := [some (.inr (some 81)), some (.inl k), some (.inl ((i : Int) + 1))]) dX12_ring_83 (by decide) rfl rfl ?_
      refine G_goto (tgt := 41) dX12_ring_86 (by decide) ?_
      rw [f_ringLs]
      exact ih (i + 1) (by omega) (by omega)

theorem m_ring (d : Nat) (τ : TT) (h : HT) (hT : TK τ) (k : Int) (r_k : -2147483648 ≤ k ∧ k ≤ 2147483647) (hd : 0 ≤ h 81 11 ∧ h 81 11 ≤ 1) : S_ mX12_ring (d + 1) 0 0 [.inr (some 81), .inl k] τ h (Zi τ fun v h' => v = (f_ring h k).1 ∧ h' = (f_ring h k).2) := by
  refine S_go (k := 1) (ls := [some (.inr (some 81)), some (.inl k), none]) (by decide) rfl (Nat.le_of_ble_eq_true rfl) rfl ?_
  refine G_aload_n (i := 0) dX12_ring_0 rfl rfl ?_
  refine G_iload_n (i := 1) dX12_ring_1 rfl rfl ?_
  refine G_iconst dX12_ring_2 ?_
  refine G_bipush dX12_ring_3 (by decide) ?_
  refine G_cVq (as := [.inl k, .inl 3, .inl 9]) qX12_195 (m_in d τ _ 81 k 3 9 (by omega) (by decide) (by decide)) rfl rfl (Nat.le_of_ble_eq_true rfl) (o81 hT) dX12_ring_5 ?_
  refine G_ifb_ne (tgt := 14) dX12_ring_8 (by decide) (fun c_1 => ?_) (fun c_1 => ?_)
  · refine G_aload_n (i := 0) dX12_ring_14 rfl rfl ?_
    refine G_getI (v := h 81 11) fX12_44 rfl dX12_ring_15 (o81 hT) rfl ?_
    refine G_if_eq (tgt := 24) dX12_ring_18 (by decide) (by omega) (fun c_2 => ?_) (fun c_2 => ?_)
    · refine G_aload_n (i := 0) dX12_ring_24 rfl rfl ?_
      refine G_iload_n (i := 1) dX12_ring_25 rfl rfl ?_
      refine G_putI fX12_13 dX12_ring_26 (o81 hT) ?_
      refine G_aload_n (i := 0) dX12_ring_29 rfl rfl ?_
      refine G_iconst dX12_ring_30 ?_
      refine G_putI fX12_54 dX12_ring_31 (o81 hT) ?_
      refine G_aload_n (i := 0) dX12_ring_34 rfl rfl ?_
      refine G_iconst dX12_ring_35 ?_
      refine G_putI fX12_57 dX12_ring_36 (o81 hT) ?_
      refine G_iconst dX12_ring_39 ?_
      refine G_istore_n (i := 2) (ls' := [some (.inr (some 81)), some (.inl k), some (.inl 0)]) dX12_ring_40 rfl (by decide) rfl ?_
      rw [← f_ringL0 (hs_ (hs_ (hs_ h 81 1 k) 81 14 0) 81 15 0)]
      refine G_mono ?_ (m_ring_L d τ _ hT k _ 0 (Nat.lt_succ_self _) (by omega))
      rintro r τ' h' ⟨q1, v, q2, rfl, rfl⟩
      exact ⟨q1, 1, q2, by unfold f_ring; (repeat (first | rw [if_pos (by first | assumption | omega)] | rw [if_neg (by first | assumption | omega)])); first | exact ⟨rfl, rfl⟩ | rfl | (refine ⟨?_, ?_⟩ <;> first | rfl | omega | grind [hs_, hf_]) | grind [hs_, hf_]⟩
    · refine G_bipush dX12_ring_21 (by decide) ?_
      refine G_iretZ rfl dX12_ring_23 ?_
      unfold f_ring; (repeat (first | rw [if_pos (by first | assumption | omega)] | rw [if_neg (by first | assumption | omega)])); first | exact ⟨rfl, rfl⟩ | rfl | (refine ⟨?_, ?_⟩ <;> first | rfl | omega | grind [hs_, hf_]) | grind [hs_, hf_]
  · refine G_bipush dX12_ring_11 (by decide) ?_
    refine G_iretZ rfl dX12_ring_13 ?_
    unfold f_ring; (repeat (first | rw [if_pos (by first | assumption | omega)] | rw [if_neg (by first | assumption | omega)])); first | exact ⟨rfl, rfl⟩ | rfl | (refine ⟨?_, ?_⟩ <;> first | rfl | omega | grind [hs_, hf_]) | grind [hs_, hf_]

def f_beginL (h : HT) (i : Nat) : HT := fun b j => if j < i then (if b = 89 then h 88 j else if b = 90 then h 87 j else if b = 94 then 0 else h b j) else h b j
theorem f_beginL0 (h : HT) : f_beginL h 0 = h := by funext b j; grind [f_beginL]
def f_begin (h : HT) : Int × HT := if h 81 11 ≠ 0 ∨ h 81 1 = 0 then (-3, h) else if ∃ k, k < (h 81 1).toNat ∧ h 85 k = -5 then (-3, h) else (h 81 1, f_beginL (hs_ (hs_ (hs_ h 81 11 1) 81 14 0) 81 15 0) (h 81 1).toNat)
theorem m_begin_L2_s0 (h : HT) (i : Nat) : (hs_ (hs_ (hs_ (f_beginL h i) 89 i ((f_beginL h i) 88 i)) 90 i ((f_beginL h i) 87 i)) 94 i 0) = (f_beginL h (i + 1)) := by
  funext b j; grind [f_beginL, hs_]
theorem m_begin_L2 (d : Nat) (τ : TT) (h : HT) (hT : TK τ) (hn : 0 ≤ h 81 1 ∧ h 81 1 ≤ 9) : ∀ (n_ : Nat) (i : Nat), (h 81 1).toNat - i < n_ → (i : Int) ≤ h 81 1 → G_ mX12_begin d 0 0 64 [some (.inr (some 81)), some (.inl (i : Int))] [] τ (f_beginL h i) (Zi τ fun v h' => v = h 81 1 ∧ h' = f_beginL h (h 81 1).toNat) := by
  intro n_
  induction n_ with
  | zero => intro i hm_; exact absurd hm_ (Nat.not_lt_zero _)
  | succ n_ ih =>
    intro i hm_ hi
    have q_ : (f_beginL h i) 81 1 = h 81 1 := by grind [f_beginL]
    refine G_iload_n (i := 1) dX12_begin_64 rfl rfl ?_
    refine G_aload_n (i := 0) dX12_begin_65 rfl rfl ?_
    refine G_getI (v := (f_beginL h i) 81 1) fX12_13 rfl dX12_begin_66 (o81 hT) rfl ?_
    refine G_icmp_ge (tgt := 109) dX12_begin_69 (by decide) (by omega) (by omega) (fun c_1 => ?_) (fun c_1 => ?_)
    · refine G_aload_n (i := 0) dX12_begin_109 rfl rfl ?_
      refine G_getI (v := (f_beginL h i) 81 1) fX12_13 rfl dX12_begin_110 (o81 hT) rfl ?_
      refine G_iretZ rfl dX12_begin_113 ?_
      exact ⟨by grind [f_beginL], by rw [show i = (h 81 1).toNat by omega]⟩
    · refine G_aload_n (i := 0) dX12_begin_72 rfl rfl ?_
      refine G_getR fX12_38 rfl dX12_begin_73 (o81 hT) (r81_9 hT) ?_
      refine G_iload_n (i := 1) dX12_begin_76 rfl rfl ?_
      refine G_aload_n (i := 0) dX12_begin_77 rfl rfl ?_
      refine G_getR fX12_35 rfl dX12_begin_78 (o81 hT) (r81_8 hT) ?_
      refine G_iload_n (i := 1) dX12_begin_81 rfl rfl ?_
      refine G_iald (v := (f_beginL h i) 88 i) dX12_begin_82 (o88 hT) (by omega) rfl ?_
      refine G_iastk i dX12_begin_83 (o89 hT) (by omega) rfl ?_
      refine G_aload_n (i := 0) dX12_begin_84 rfl rfl ?_
      refine G_getR fX12_41 rfl dX12_begin_85 (o81 hT) (r81_10 hT) ?_
      refine G_iload_n (i := 1) dX12_begin_88 rfl rfl ?_
      refine G_aload_n (i := 0) dX12_begin_89 rfl rfl ?_
      refine G_getR fX12_32 rfl dX12_begin_90 (o81 hT) (r81_7 hT) ?_
      refine G_iload_n (i := 1) dX12_begin_93 rfl rfl ?_
      refine G_iald (v := (f_beginL h i) 87 i) dX12_begin_94 (o87 hT) (by omega) (hs_na (by decide)) ?_
      refine G_iastk i dX12_begin_95 (o90 hT) (by omega) rfl ?_
      refine G_aload_n (i := 0) dX12_begin_96 rfl rfl ?_
      refine G_getR fX12_63 rfl dX12_begin_97 (o81 hT) (r81_17 hT) ?_
      refine G_iload_n (i := 1) dX12_begin_100 rfl rfl ?_
      refine G_iconst dX12_begin_101 ?_
      refine G_iastk i dX12_begin_102 (o94 hT) (by omega) rfl ?_
      refine G_iinc (ls' := [some (.inr (some 81)), some (.inl ((i : Int) + 1))]) dX12_begin_103 (by decide) rfl rfl ?_
      refine G_goto (tgt := 64) dX12_begin_106 (by decide) ?_
      rw [m_begin_L2_s0 h i]
      exact ih (i + 1) (by omega) (by omega)

theorem m_begin_L1 (d : Nat) (τ : TT) (h : HT) (hT : TK τ) (hn : 0 ≤ h 81 1 ∧ h 81 1 ≤ 9) (hw : ∀ k : Nat, k < 9 → -5 ≤ h 85 k ∧ h 85 k ≤ 15) (g1 : h 81 11 = 0) (g2 : h 81 1 ≠ 0) : ∀ (n_ : Nat) (i : Nat), (h 81 1).toNat - i < n_ → (i : Int) ≤ h 81 1 → (∀ j : Nat, j < i → h 85 j ≠ -5) → G_ mX12_begin d 0 0 19 [some (.inr (some 81)), some (.inl (i : Int))] [] τ h (Zi τ fun v h' => v = (f_begin h).1 ∧ h' = (f_begin h).2) := by
  intro n_
  induction n_ with
  | zero => intro i hm_; exact absurd hm_ (Nat.not_lt_zero _)
  | succ n_ ih =>
    intro i hm_ hi hj
    refine G_iload_n (i := 1) dX12_begin_19 rfl rfl ?_
    refine G_aload_n (i := 0) dX12_begin_20 rfl rfl ?_
    refine G_getI (v := h 81 1) fX12_13 rfl dX12_begin_21 (o81 hT) rfl ?_
    refine G_icmp_ge (tgt := 47) dX12_begin_24 (by decide) (by omega) (by omega) (fun c_1 => ?_) (fun c_1 => ?_)
    · refine G_aload_n (i := 0) dX12_begin_47 rfl rfl ?_
      refine G_iconst dX12_begin_48 ?_
      refine G_putZ fX12_44 (by decide) dX12_begin_49 (o81 hT) ?_
      refine G_aload_n (i := 0) dX12_begin_52 rfl rfl ?_
      refine G_iconst dX12_begin_53 ?_
      refine G_putI fX12_54 dX12_begin_54 (o81 hT) ?_
      refine G_aload_n (i := 0) dX12_begin_57 rfl rfl ?_
      refine G_iconst dX12_begin_58 ?_
      refine G_putI fX12_57 dX12_begin_59 (o81 hT) ?_
      refine G_iconst dX12_begin_62 ?_
      refine G_istore_n (i := 1) (ls' := [some (.inr (some 81)), some (.inl 0)]) dX12_begin_63 rfl (by decide) rfl ?_
      have hx : ¬ ∃ k, k < (h 81 1).toNat ∧ h 85 k = -5 := by rintro ⟨k, k1, k2⟩; exact hj k (by omega) k2
      rw [← f_beginL0 (hs_ (hs_ (hs_ h 81 11 1) 81 14 0) 81 15 0)]
      refine G_mono ?_ (m_begin_L2 d τ _ hT (by simp [hs_]; omega) _ 0 (Nat.lt_succ_self _) (by simp [hs_]; omega))
      rintro r τ' h' ⟨q1, v, q2, rfl, rfl⟩
      refine ⟨q1, _, q2, ?_⟩
      simp only [hs_]; unfold f_begin; (repeat (first | rw [if_pos (by first | assumption | omega)] | rw [if_neg (by first | assumption | omega)])); first | exact ⟨rfl, rfl⟩ | rfl | (refine ⟨?_, ?_⟩ <;> first | rfl | omega | grind [hs_, hf_]) | grind [hs_, hf_]
    · refine G_aload_n (i := 0) dX12_begin_27 rfl rfl ?_
      refine G_getR fX12_26 rfl dX12_begin_28 (o81 hT) (r81_5 hT) ?_
      refine G_iload_n (i := 1) dX12_begin_31 rfl rfl ?_
      refine G_iald (v := h 85 i) dX12_begin_32 (o85 hT) (by omega) rfl ?_
      have e_ := hw i (by omega)
      refine G_bipush dX12_begin_33 (by decide) ?_
      refine G_icmp_ne (tgt := 41) dX12_begin_35 (by decide) (by omega) (by decide) (fun c_2 => ?_) (fun c_2 => ?_)
      · refine G_iinc (ls' := [some (.inr (some 81)), some (.inl ((i : Int) + 1))]) dX12_begin_41 (by decide) rfl rfl ?_
        refine G_goto (tgt := 19) dX12_begin_44 (by decide) ?_
        exact ih (i + 1) (by omega) (by omega) (by grind)
      · refine G_bipush dX12_begin_38 (by decide) ?_
        refine G_iretZ rfl dX12_begin_40 ?_
        first | (have hx : ∃ k, k < (h 81 1).toNat ∧ h 85 k = -5 := ⟨i, by omega, by omega⟩; unfold f_begin; (repeat (first | rw [if_pos (by first | assumption | omega)] | rw [if_neg (by first | assumption | omega)])); first | exact ⟨rfl, rfl⟩ | rfl | (refine ⟨?_, ?_⟩ <;> first | rfl | omega | grind [hs_, hf_]) | grind [hs_, hf_]) | (unfold f_begin; (repeat (first | rw [if_pos (by first | assumption | omega)] | rw [if_neg (by first | assumption | omega)])); first | exact ⟨rfl, rfl⟩ | rfl | (refine ⟨?_, ?_⟩ <;> first | rfl | omega | grind [hs_, hf_]) | grind [hs_, hf_])

theorem m_begin (d : Nat) (τ : TT) (h : HT) (hT : TK τ) (hn : 0 ≤ h 81 1 ∧ h 81 1 ≤ 9) (hd : 0 ≤ h 81 11 ∧ h 81 11 ≤ 1) (hw : ∀ k : Nat, k < 9 → -5 ≤ h 85 k ∧ h 85 k ≤ 15) : S_ mX12_begin d 0 0 [.inr (some 81)] τ h (Zi τ fun v h' => v = (f_begin h).1 ∧ h' = (f_begin h).2) := by
  refine S_go (k := 1) (ls := [some (.inr (some 81)), none]) (by decide) rfl (Nat.le_of_ble_eq_true rfl) rfl ?_
  refine G_aload_n (i := 0) dX12_begin_0 rfl rfl ?_
  refine G_getI (v := h 81 11) fX12_44 rfl dX12_begin_1 (o81 hT) rfl ?_
  refine G_if_ne (tgt := 14) dX12_begin_4 (by decide) (by omega) (fun c_1 => ?_) (fun c_1 => ?_)
  · refine G_bipush dX12_begin_14 (by decide) ?_
    refine G_iretZ rfl dX12_begin_16 ?_
    unfold f_begin; (repeat (first | rw [if_pos (by first | assumption | omega)] | rw [if_neg (by first | assumption | omega)])); first | exact ⟨rfl, rfl⟩ | rfl | (refine ⟨?_, ?_⟩ <;> first | rfl | omega | grind [hs_, hf_]) | grind [hs_, hf_]
  · refine G_aload_n (i := 0) dX12_begin_7 rfl rfl ?_
    refine G_getI (v := h 81 1) fX12_13 rfl dX12_begin_8 (o81 hT) rfl ?_
    refine G_if_ne (tgt := 17) dX12_begin_11 (by decide) (by omega) (fun c_2 => ?_) (fun c_2 => ?_)
    · refine G_iconst dX12_begin_17 ?_
      refine G_istore_n (i := 1) (ls' := [some (.inr (some 81)), some (.inl 0)]) dX12_begin_18 rfl (by decide) rfl ?_
      exact m_begin_L1 d τ h hT hn hw (by omega) (by omega) _ 0 (Nat.lt_succ_self _) (by omega) (by grind)
    · refine G_bipush dX12_begin_14 (by decide) ?_
      refine G_iretZ rfl dX12_begin_16 ?_
      unfold f_begin; (repeat (first | rw [if_pos (by first | assumption | omega)] | rw [if_neg (by first | assumption | omega)])); first | exact ⟨rfl, rfl⟩ | rfl | (refine ⟨?_, ?_⟩ <;> first | rfl | omega | grind [hs_, hf_]) | grind [hs_, hf_]

def f_endL1 (h : HT) (i : Nat) : HT := fun b j => if j < i then (if b = 91 then h 87 (h 86 j).toNat else if b = 92 then h 88 (h 86 j).toNat else h b j) else h b j
def f_endL2 (h : HT) (i : Nat) : HT := fun b j => if j < i then (if b = 87 then h 91 j else if b = 88 then h 92 j else if b = 86 then (j : Int) else h b j) else h b j
theorem f_endL10 (h : HT) : f_endL1 h 0 = h := by funext b j; grind [f_endL1]
theorem f_endL20 (h : HT) : f_endL2 h 0 = h := by funext b j; grind [f_endL2]
def f_end (h : HT) : Int × HT := if h 81 11 = 0 then (-3, h) else (h 81 14, f_endL2 (f_endL1 (hs_ h 81 11 0) (h 81 1).toNat) (h 81 1).toNat)
theorem m_end_L2_s0 (h : HT) (i : Nat) : (hs_ (hs_ (hs_ (f_endL2 h i) 87 i ((f_endL2 h i) 91 i)) 88 i ((f_endL2 h i) 92 i)) 86 i (i : Int)) = (f_endL2 h (i + 1)) := by
  funext b j; grind [f_endL2, hs_]
theorem m_end_L2 (d : Nat) (τ : TT) (h : HT) (hT : TK τ) (hn : 0 ≤ h 81 1 ∧ h 81 1 ≤ 9) : ∀ (n_ : Nat) (i : Nat), (h 81 1).toNat - i < n_ → (i : Int) ≤ h 81 1 → G_ mX12_end d 0 0 67 [some (.inr (some 81)), some (.inl (i : Int))] [] τ (f_endL2 h i) (Zi τ fun v h' => v = h 81 14 ∧ h' = f_endL2 h (h 81 1).toNat) := by
  intro n_
  induction n_ with
  | zero => intro i hm_; exact absurd hm_ (Nat.not_lt_zero _)
  | succ n_ ih =>
    intro i hm_ hi
    have q_ : (f_endL2 h i) 81 1 = h 81 1 := by grind [f_endL2]
    refine G_iload_n (i := 1) dX12_end_67 rfl rfl ?_
    refine G_aload_n (i := 0) dX12_end_68 rfl rfl ?_
    refine G_getI (v := (f_endL2 h i) 81 1) fX12_13 rfl dX12_end_69 (o81 hT) rfl ?_
    refine G_icmp_ge (tgt := 112) dX12_end_72 (by decide) (by omega) (by omega) (fun c_1 => ?_) (fun c_1 => ?_)
    · refine G_aload_n (i := 0) dX12_end_112 rfl rfl ?_
      refine G_getI (v := (f_endL2 h i) 81 14) fX12_54 rfl dX12_end_113 (o81 hT) rfl ?_
      refine G_iretZ rfl dX12_end_116 ?_
      exact ⟨by grind [f_endL2], by rw [show i = (h 81 1).toNat by omega]⟩
    · refine G_aload_n (i := 0) dX12_end_75 rfl rfl ?_
      refine G_getR fX12_32 rfl dX12_end_76 (o81 hT) (r81_7 hT) ?_
      refine G_iload_n (i := 1) dX12_end_79 rfl rfl ?_
      refine G_aload_n (i := 0) dX12_end_80 rfl rfl ?_
      refine G_getR fX12_48 rfl dX12_end_81 (o81 hT) (r81_12 hT) ?_
      refine G_iload_n (i := 1) dX12_end_84 rfl rfl ?_
      refine G_iald (v := (f_endL2 h i) 91 i) dX12_end_85 (o91 hT) (by omega) rfl ?_
      refine G_iastk i dX12_end_86 (o87 hT) (by omega) rfl ?_
      refine G_aload_n (i := 0) dX12_end_87 rfl rfl ?_
      refine G_getR fX12_35 rfl dX12_end_88 (o81 hT) (r81_8 hT) ?_
      refine G_iload_n (i := 1) dX12_end_91 rfl rfl ?_
      refine G_aload_n (i := 0) dX12_end_92 rfl rfl ?_
      refine G_getR fX12_51 rfl dX12_end_93 (o81 hT) (r81_13 hT) ?_
      refine G_iload_n (i := 1) dX12_end_96 rfl rfl ?_
      refine G_iald (v := (f_endL2 h i) 92 i) dX12_end_97 (o92 hT) (by omega) (hs_na (by decide)) ?_
      refine G_iastk i dX12_end_98 (o88 hT) (by omega) rfl ?_
      refine G_aload_n (i := 0) dX12_end_99 rfl rfl ?_
      refine G_getR fX12_29 rfl dX12_end_100 (o81 hT) (r81_6 hT) ?_
      refine G_iload_n (i := 1) dX12_end_103 rfl rfl ?_
      refine G_iload_n (i := 1) dX12_end_104 rfl rfl ?_
      refine G_iastk i dX12_end_105 (o86 hT) (by omega) rfl ?_
      refine G_iinc (ls' := [some (.inr (some 81)), some (.inl ((i : Int) + 1))]) dX12_end_106 (by decide) rfl rfl ?_
      refine G_goto (tgt := 67) dX12_end_109 (by decide) ?_
      rw [m_end_L2_s0 h i]
      exact ih (i + 1) (by omega) (by omega)

theorem m_end_L1_s0 (h : HT) (i : Nat) : (hs_ (hs_ (f_endL1 h i) 91 i ((f_endL1 h i) 87 (((f_endL1 h i) 86 i).toNat))) 92 i ((f_endL1 h i) 88 (((f_endL1 h i) 86 i).toNat))) = (f_endL1 h (i + 1)) := by
  funext b j; grind [f_endL1, hs_]
theorem m_end_L1 (d : Nat) (τ : TT) (h : HT) (hT : TK τ) (hn : 0 ≤ h 81 1 ∧ h 81 1 ≤ 9) (hh : ∀ k : Nat, (k : Int) < h 81 1 → 0 ≤ h 86 k ∧ h 86 k < h 81 1) : ∀ (n_ : Nat) (i : Nat), (h 81 1).toNat - i < n_ → (i : Int) ≤ h 81 1 → G_ mX12_end d 0 0 17 [some (.inr (some 81)), some (.inl (i : Int))] [] τ (f_endL1 h i) (Zi τ fun v h' => v = h 81 14 ∧ h' = f_endL2 (f_endL1 h (h 81 1).toNat) (h 81 1).toNat) := by
  intro n_
  induction n_ with
  | zero => intro i hm_; exact absurd hm_ (Nat.not_lt_zero _)
  | succ n_ ih =>
    intro i hm_ hi
    have q_ : (f_endL1 h i) 81 1 = h 81 1 := by grind [f_endL1]
    refine G_iload_n (i := 1) dX12_end_17 rfl rfl ?_
    refine G_aload_n (i := 0) dX12_end_18 rfl rfl ?_
    refine G_getI (v := (f_endL1 h i) 81 1) fX12_13 rfl dX12_end_19 (o81 hT) rfl ?_
    refine G_icmp_ge (tgt := 65) dX12_end_22 (by decide) (by omega) (by omega) (fun c_1 => ?_) (fun c_1 => ?_)
    · refine G_iconst dX12_end_65 ?_
      refine G_istore_n (i := 1) (ls' := [some (.inr (some 81)), some (.inl 0)]) dX12_end_66 rfl (by decide) rfl ?_
      obtain rfl : i = (h 81 1).toNat := by omega
      rw [← f_endL20 (f_endL1 h (h 81 1).toNat)]
      have q1 : f_endL1 h (h 81 1).toNat 81 1 = h 81 1 := by grind [f_endL1]
      have q2 : f_endL1 h (h 81 1).toNat 81 14 = h 81 14 := by grind [f_endL1]
      have := m_end_L2 d τ (f_endL1 h (h 81 1).toNat) hT (by rw [q1]; exact hn) _ 0 (Nat.lt_succ_self _) (by rw [q1]; omega)
      rw [q1, q2] at this
      exact this
    · refine G_aload_n (i := 0) dX12_end_25 rfl rfl ?_
      refine G_getR fX12_48 rfl dX12_end_26 (o81 hT) (r81_12 hT) ?_
      refine G_iload_n (i := 1) dX12_end_29 rfl rfl ?_
      refine G_aload_n (i := 0) dX12_end_30 rfl rfl ?_
      refine G_getR fX12_32 rfl dX12_end_31 (o81 hT) (r81_7 hT) ?_
      refine G_aload_n (i := 0) dX12_end_34 rfl rfl ?_
      refine G_getR fX12_29 rfl dX12_end_35 (o81 hT) (r81_6 hT) ?_
      refine G_iload_n (i := 1) dX12_end_38 rfl rfl ?_
      refine G_iald (v := (f_endL1 h i) 86 i) dX12_end_39 (o86 hT) (by omega) rfl ?_
      have q2_ : (f_endL1 h i) 86 i = h 86 i := by grind [f_endL1]
      have e_ := hh i (by omega)
      refine G_iald (v := (f_endL1 h i) 87 (((f_endL1 h i) 86 i).toNat)) dX12_end_40 (o87 hT) (by omega) rfl ?_
      refine G_iastk i dX12_end_41 (o91 hT) (by omega) rfl ?_
      refine G_aload_n (i := 0) dX12_end_42 rfl rfl ?_
      refine G_getR fX12_51 rfl dX12_end_43 (o81 hT) (r81_13 hT) ?_
      refine G_iload_n (i := 1) dX12_end_46 rfl rfl ?_
      refine G_aload_n (i := 0) dX12_end_47 rfl rfl ?_
      refine G_getR fX12_35 rfl dX12_end_48 (o81 hT) (r81_8 hT) ?_
      refine G_aload_n (i := 0) dX12_end_51 rfl rfl ?_
      refine G_getR fX12_29 rfl dX12_end_52 (o81 hT) (r81_6 hT) ?_
      refine G_iload_n (i := 1) dX12_end_55 rfl rfl ?_
      refine G_iald (v := (f_endL1 h i) 86 i) dX12_end_56 (o86 hT) (by omega) (hs_na (by decide)) ?_
      have q2_ : (f_endL1 h i) 86 i = h 86 i := by grind [f_endL1]
      have e_ := hh i (by omega)
      refine G_iald (v := (f_endL1 h i) 88 (((f_endL1 h i) 86 i).toNat)) dX12_end_57 (o88 hT) (by omega) (hs_na (by decide)) ?_
      refine G_iastk i dX12_end_58 (o92 hT) (by omega) rfl ?_
      refine G_iinc (ls' := [some (.inr (some 81)), some (.inl ((i : Int) + 1))]) dX12_end_59 (by decide) rfl rfl ?_
      refine G_goto (tgt := 17) dX12_end_62 (by decide) ?_
      rw [m_end_L1_s0 h i]
      exact ih (i + 1) (by omega) (by omega)

theorem m_end (d : Nat) (τ : TT) (h : HT) (hT : TK τ) (hn : 0 ≤ h 81 1 ∧ h 81 1 ≤ 9) (hd : 0 ≤ h 81 11 ∧ h 81 11 ≤ 1) (hh : ∀ k : Nat, (k : Int) < h 81 1 → 0 ≤ h 86 k ∧ h 86 k < h 81 1) : S_ mX12_end d 0 0 [.inr (some 81)] τ h (Zi τ fun v h' => v = (f_end h).1 ∧ h' = (f_end h).2) := by
  refine S_go (k := 1) (ls := [some (.inr (some 81)), none]) (by decide) rfl (Nat.le_of_ble_eq_true rfl) rfl ?_
  refine G_aload_n (i := 0) dX12_end_0 rfl rfl ?_
  refine G_getI (v := h 81 11) fX12_44 rfl dX12_end_1 (o81 hT) rfl ?_
  refine G_if_ne (tgt := 10) dX12_end_4 (by decide) (by omega) (fun c_1 => ?_) (fun c_1 => ?_)
  · refine G_aload_n (i := 0) dX12_end_10 rfl rfl ?_
    refine G_iconst dX12_end_11 ?_
    refine G_putZ fX12_44 (by decide) dX12_end_12 (o81 hT) ?_
    refine G_iconst dX12_end_15 ?_
    refine G_istore_n (i := 1) (ls' := [some (.inr (some 81)), some (.inl 0)]) dX12_end_16 rfl (by decide) rfl ?_
    rw [← f_endL10 (hs_ h 81 11 0)]
    refine G_mono ?_ (m_end_L1 d τ _ hT (by simp [hs_]; omega) (by simp only [hs_]; simpa using hh) _ 0 (Nat.lt_succ_self _) (by simp [hs_]; omega))
    rintro r τ' h' ⟨q1, v, q2, rfl, rfl⟩
    refine ⟨q1, _, q2, ?_⟩
    have q3 : (hs_ h 81 11 0) 81 1 = h 81 1 := by simp [hs_]
    have q4 : (hs_ h 81 11 0) 81 14 = h 81 14 := by simp [hs_]
    rw [q3, q4]
    unfold f_end; (repeat (first | rw [if_pos (by first | assumption | omega)] | rw [if_neg (by first | assumption | omega)])); first | exact ⟨rfl, rfl⟩ | rfl | (refine ⟨?_, ?_⟩ <;> first | rfl | omega | grind [hs_, hf_]) | grind [hs_, hf_]
  · refine G_bipush dX12_end_7 (by decide) ?_
    refine G_iretZ rfl dX12_end_9 ?_
    unfold f_end; (repeat (first | rw [if_pos (by first | assumption | omega)] | rw [if_neg (by first | assumption | omega)])); first | exact ⟨rfl, rfl⟩ | rfl | (refine ⟨?_, ?_⟩ <;> first | rfl | omega | grind [hs_, hf_]) | grind [hs_, hf_]

