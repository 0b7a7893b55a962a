/-! the reference: forms -/
def f_S (h : HT) (f : Int) (k : Nat) : Int := if 0 ≤ f then h 103 (300 * f.toNat + k) else h 93 k
def f_N (h : HT) (f : Int) : Int := if 0 ≤ f then h 102 f.toNat else h 81 14
theorem m_stepOf (d : Nat) (τ : TT) (h : HT) (hT : TK τ) (f : Int) (k : Nat) (hf : -1 ≤ f ∧ f ≤ 10) (hk : k < 300) : S_ mX12_stepOf d 0 0 [.inr (some 81), .inl f, .inl (k : Int)] τ h (Zi τ fun v h' => v = f_S h f k ∧ h' = h) := by
  refine S_go (k := 0) (ls := [some (.inr (some 81)), some (.inl f), some (.inl (k : Int))]) (by decide) rfl (Nat.le_of_ble_eq_true rfl) rfl ?_
  refine G_iload_n (i := 1) dX12_stepOf_0 rfl rfl ?_
  refine G_if_ge (tgt := 13) dX12_stepOf_1 (by decide) (by omega) (fun c_1 => ?_) (fun c_1 => ?_)
  · refine G_aload_n (i := 0) dX12_stepOf_13 rfl rfl ?_
    refine G_getR fX12_99 rfl dX12_stepOf_14 (o81 hT) (r81_29 hT) ?_
    refine G_sipush dX12_stepOf_17 (by decide) ?_
    refine G_iload_n (i := 1) dX12_stepOf_20 rfl rfl ?_
    refine G_imul dX12_stepOf_21 ?_
    refine G_iload_n (i := 2) dX12_stepOf_22 rfl rfl ?_
    refine G_iadd dX12_stepOf_23 ?_
    refine G_iald (v := h 103 (((300 * f) + (k : Int)).toNat)) dX12_stepOf_24 (o103 hT) (by omega) rfl ?_
    refine G_iretZ rfl dX12_stepOf_25 ?_
    refine ⟨?_, rfl⟩
    unfold f_S
    rw [if_pos (by omega), show (300 * f + (k : Int)).toNat = 300 * f.toNat + k by omega]
  · refine G_aload_n (i := 0) dX12_stepOf_4 rfl rfl ?_
    refine G_getR fX12_60 rfl dX12_stepOf_5 (o81 hT) (r81_16 hT) ?_
    refine G_iload_n (i := 2) dX12_stepOf_8 rfl rfl ?_
    refine G_iald (v := h 93 k) dX12_stepOf_9 (o93 hT) (by omega) rfl ?_
    refine G_goto (tgt := 25) dX12_stepOf_10 (by decide) ?_
    refine G_iretZ rfl dX12_stepOf_25 ?_
    refine ⟨?_, rfl⟩
    unfold f_S
    rw [if_neg (by omega)]

theorem m_stepsOf (d : Nat) (τ : TT) (h : HT) (hT : TK τ) (f : Int) (hf : -1 ≤ f ∧ f ≤ 10) : S_ mX12_stepsOf d 0 0 [.inr (some 81), .inl f] τ h (Zi τ fun v h' => v = f_N h f ∧ h' = h) := by
  refine S_go (k := 0) (ls := [some (.inr (some 81)), some (.inl f)]) (by decide) rfl (Nat.le_of_ble_eq_true rfl) rfl ?_
  refine G_iload_n (i := 1) dX12_stepsOf_0 rfl rfl ?_
  refine G_if_ge (tgt := 11) dX12_stepsOf_1 (by decide) (by omega) (fun c_1 => ?_) (fun c_1 => ?_)
  · refine G_aload_n (i := 0) dX12_stepsOf_11 rfl rfl ?_
    refine G_getR fX12_96 rfl dX12_stepsOf_12 (o81 hT) (r81_28 hT) ?_
    refine G_iload_n (i := 1) dX12_stepsOf_15 rfl rfl ?_
    refine G_iald (v := h 102 ((f).toNat)) dX12_stepsOf_16 (o102 hT) (by omega) rfl ?_
    refine G_iretZ rfl dX12_stepsOf_17 ?_
    refine ⟨?_, rfl⟩
    unfold f_N
    rw [if_pos (by omega)]
  · refine G_aload_n (i := 0) dX12_stepsOf_4 rfl rfl ?_
    refine G_getI (v := h 81 14) fX12_54 rfl dX12_stepsOf_5 (o81 hT) rfl ?_
    refine G_goto (tgt := 17) dX12_stepsOf_8 (by decide) ?_
    refine G_iretZ rfl dX12_stepsOf_17 ?_
    refine ⟨?_, rfl⟩
    unfold f_N
    rw [if_neg (by omega)]

theorem m_areFar (d : Nat) (τ : TT) (h : HT) (hT : TK τ) (p q : Int) (hp : -100 ≤ p ∧ p ≤ 100) (hq : -100 ≤ q ∧ q ≤ 100) (hn : 0 ≤ h 81 1 ∧ h 81 1 ≤ 9) : S_ mX12_areFar (d + 1) 0 0 [.inr (some 81), .inl p, .inl q] τ h (Zi τ fun v h' => v = (if f_far (h 81 1) p q then 1 else 0) ∧ h' = h) := by
  refine S_go (k := 1) (ls := [some (.inr (some 81)), some (.inl p), some (.inl q), none]) (by decide) rfl (Nat.le_of_ble_eq_true rfl) rfl ?_
  refine G_aload_n (i := 0) dX12_areFar_0 rfl rfl ?_
  refine G_iload_n (i := 1) dX12_areFar_1 rfl rfl ?_
  refine G_iload_n (i := 2) dX12_areFar_2 rfl rfl ?_
  refine G_isub dX12_areFar_3 ?_
  refine G_cVq (as := [.inl (p - q)]) qX12_264 (m_abs d τ h 81 (p - q) (by omega)) rfl rfl (Nat.le_of_ble_eq_true rfl) (o81 hT) dX12_areFar_4 ?_
  refine G_istore_n (i := 3) (ls' := [some (.inr (some 81)), some (.inl p), some (.inl q), some (.inl (if (p - q) < 0 then -(p - q) else (p - q)))]) dX12_areFar_7 rfl (by decide) rfl ?_
  refine G_iload_n (i := 3) dX12_areFar_8 rfl rfl ?_
  refine G_iconst dX12_areFar_9 ?_
  refine G_icmp_le (tgt := 27) dX12_areFar_10 (by decide) (by omega) (by decide) (fun c_1 => ?_) (fun c_1 => ?_)
  · refine G_iconst dX12_areFar_27 ?_
    refine G_zretZ rfl (by decide) dX12_areFar_28 ?_
    exact ⟨by first | rw [if_pos ⟨by omega, by omega⟩] | rw [if_neg (fun z => by omega)], rfl⟩
  · refine G_iload_n (i := 3) dX12_areFar_13 rfl rfl ?_
    refine G_aload_n (i := 0) dX12_areFar_14 rfl rfl ?_
    refine G_getI (v := h 81 1) fX12_13 rfl dX12_areFar_15 (o81 hT) rfl ?_
    refine G_iconst dX12_areFar_18 ?_
    refine G_isub dX12_areFar_19 ?_
    refine G_icmp_ge (tgt := 27) dX12_areFar_20 (by decide) (by omega) (by omega) (fun c_2 => ?_) (fun c_2 => ?_)
    · refine G_iconst dX12_areFar_27 ?_
      refine G_zretZ rfl (by decide) dX12_areFar_28 ?_
      exact ⟨by first | rw [if_pos ⟨by omega, by omega⟩] | rw [if_neg (fun z => by omega)], rfl⟩
    · refine G_iconst dX12_areFar_23 ?_
      refine G_goto (tgt := 28) dX12_areFar_24 (by decide) ?_
      refine G_zretZ rfl (by decide) dX12_areFar_28 ?_
      exact ⟨by first | rw [if_pos ⟨by omega, by omega⟩] | rw [if_neg (fun z => by omega)], rfl⟩

abbrev FMd (h : HT) (m : Nat) (F : Nat → Int) : Prop := h 81 37 = m ∧ ∀ j : Nat, j < m → h 107 j = F j
def FRg (h g : HT) : Prop := ∀ a i : Nat, a ≠ 107 → (a = 81 → i ≠ 37) → g a i = h a i
def FRf (h g : HT) : Prop := ∀ a i : Nat, a ≠ 107 → (a = 81 → i ≠ 37 ∧ i ≠ 38) → g a i = h a i
theorem FRf.rf {h : HT} : FRf h h := fun _ _ _ _ => rfl
theorem FRf.tr {h g k : HT} (x : FRf h g) (y : FRf g k) : FRf h k := fun a i p z => (y a i p z).trans (x a i p z)
theorem FRg.f {h g : HT} (x : FRg h g) : FRf h g := fun a i p z => x a i p (fun e => (z e).1)
def FRk (h g : HT) : Prop := ∀ a i : Nat, a ≠ 107 → a ≠ 108 → (a = 81 → i ≠ 37 ∧ i ≠ 38) → g a i = h a i
theorem FRk.rf {h : HT} : FRk h h := fun _ _ _ _ _ => rfl
theorem FRk.tr {h g k : HT} (x : FRk h g) (y : FRk g k) : FRk h k := fun a i p q z => (y a i p q z).trans (x a i p q z)
theorem FRf.k {h g : HT} (x : FRf h g) : FRk h g := fun a i p _ z => x a i p z
theorem w_cd_r {n x : Int} (q : w_cd n x) : 0 ≤ x ∧ x ≤ 99 ∧ 0 ≤ x.tdiv 10 ∧ x.tdiv 10 < n ∧ x.tdiv 10 ≤ 9 := by
  obtain ⟨a, b, c, d⟩ := q
  have : x.tdiv 10 = x / 10 := Int.tdiv_eq_ediv_of_nonneg a
  refine ⟨a, b, ?_, c, ?_⟩ <;> omega
theorem w_x1 {n x : Int} (q : w_cd n x) : -2147483648 ≤ b_xor x 1 ∧ b_xor x 1 ≤ 2147483647 := by
  rw [b_xor1 ⟨q.1, q.2.1⟩]
  have a1 := q.1
  have a2 := q.2.1
  split <;> omega
theorem m_take_R (d : Nat) (τ : TT) (h : HT) (hT : TK τ) (m k : Nat) (x y : Int) (hm : 1 ≤ m ∧ m ≤ 300) (hk : k < m) : ∀ (n_ : Nat) (i : Nat), m - i < n_ → i ≤ m - 1 → k ≤ i → G_ mX12_take (d + 2) 0 0 65 [some (.inr (some 81)), some (.inl x), some (.inl y), some (.inl (i : Int))] [] τ (hf_ (hs_ h 81 37 ((m : Int) - 1)) 107 k i (fun j => h 107 (j + 1))) (Zv τ fun h' => h' = hf_ (hs_ h 81 37 ((m : Int) - 1)) 107 k (m - 1) (fun j => h 107 (j + 1))) := by
  intro n_
  induction n_ with
  | zero => intro i hm_; exact absurd hm_ (Nat.not_lt_zero _)
  | succ n_ ih =>
    intro i hm_ hi hki
    refine G_iload_n (i := 3) dX12_take_65 rfl rfl ?_
    refine G_aload_n (i := 0) dX12_take_66 rfl rfl ?_
    refine G_getI (v := ((m : Int) - 1)) fX12_123 rfl dX12_take_67 (o81 hT) ((hf_na (by decide)).trans hs_eq) ?_
    refine G_icmp_ge (tgt := 93) dX12_take_70 (by decide) (by omega) (by omega) (fun c_1 => ?_) (fun c_1 => ?_)
    · refine G_vretZ rfl dX12_take_93 ?_
      obtain rfl : i = m - 1 := by omega
      rfl
    · refine G_aload_n (i := 0) dX12_take_73 rfl rfl ?_
      refine G_getR fX12_117 rfl dX12_take_74 (o81 hT) (r81_35 hT) ?_
      refine G_iload_n (i := 3) dX12_take_77 rfl rfl ?_
      refine G_aload_n (i := 0) dX12_take_78 rfl rfl ?_
      refine G_getR fX12_117 rfl dX12_take_79 (o81 hT) (r81_35 hT) ?_
      refine G_iload_n (i := 3) dX12_take_82 rfl rfl ?_
      refine G_iconst dX12_take_83 ?_
      refine G_iadd dX12_take_84 ?_
      refine G_iald (v := h 107 (i + 1)) dX12_take_85 (o107 hT) (by omega) ((hf_ni (by omega)).trans (hs_na (by decide))) ?_
      refine G_iastk i dX12_take_86 (o107 hT) (by omega) rfl ?_
      refine G_iinc (ls' := [some (.inr (some 81)), some (.inl x), some (.inl y), some (.inl ((i : Int) + 1))]) dX12_take_87 (by decide) rfl rfl ?_
      refine G_goto (tgt := 65) dX12_take_90 (by decide) ?_
      rw [hf_snoc hki rfl]
      exact ih (i + 1) (by omega) (by omega) (by omega)

theorem m_take_E (d : Nat) (τ : TT) (h : HT) (hT : TK τ) (m : Nat) (F : Nat → Int) (x : Int) (hn : 3 ≤ h 81 1 ∧ h 81 1 ≤ 9) (hm : m < 300) (hx : w_cd (h 81 1) x) (fm : FMd h m F) (ok : ∀ j : Nat, j < m → w_cd (h 81 1) (F j)) (k : Nat) (el : w_last (h 81 1) F x m = k) (hk : k ≤ m) : G_ mX12_take (d + 2) 0 0 37 [some (.inr (some 81)), some (.inl x), some (.inl ((k : Int) - 1)), none] [] τ h (Zv τ fun h' => FMd h' (w_m (h 81 1) m F x) (w_F (h 81 1) m F x) ∧ FRg h h') := by
  have hxr := w_cd_r hx
  have hb1 := w_x1 hx
  refine G_iload_n (i := 2) dX12_take_37 rfl rfl ?_
  refine G_if_lt (tgt := 94) dX12_take_38 (by decide) (by omega) (fun c_1 => ?_) (fun c_1 => ?_)
  · refine G_aload_n (i := 0) dX12_take_94 rfl rfl ?_
    refine G_getR fX12_117 rfl dX12_take_95 (o81 hT) (r81_35 hT) ?_
    refine G_aload_n (i := 0) dX12_take_98 rfl rfl ?_
    refine G_getI (v := (m : Int)) fX12_123 rfl dX12_take_99 (o81 hT) (fm.1) ?_
    refine G_iload_n (i := 1) dX12_take_102 rfl rfl ?_
    refine G_iastk (((m : Int)).toNat) dX12_take_103 (o107 hT) (by omega) rfl ?_
    refine G_aload_n (i := 0) dX12_take_104 rfl rfl ?_
    refine G_dup dX12_take_105 ?_
    refine G_getI (v := (m : Int)) fX12_123 rfl dX12_take_106 (o81 hT) ((hs_na (by decide)).trans (fm.1)) ?_
    refine G_iconst dX12_take_109 ?_
    refine G_iadd dX12_take_110 ?_
    refine G_putI fX12_123 dX12_take_111 (o81 hT) ?_
    refine G_vretZ rfl dX12_take_114 ?_
    have nh : ¬ w_hit (h 81 1) m F x := by unfold w_hit; rw [el]; intro z; obtain ⟨z1, z2⟩ := z; rw [show k - 1 = ((k : Int) - 1).toNat by omega] at z2; first | omega | (apply id; assumption) | (rename_i w1; exact w1 z2) | contradiction
    refine ⟨⟨?_, fun i hi => ?_⟩, fun a i z1 z2 => ?_⟩
    · rw [hs_eq]; unfold w_m; rw [if_neg nh]; omega
    · unfold w_m at hi; rw [if_neg nh] at hi; unfold w_F; rw [if_neg nh, hs_na (by decide)]; unfold hs_; by_cases u : i = m
      · rw [if_pos ⟨rfl, u⟩, if_pos u]
      · rw [if_neg (fun z => u z.2), if_neg u]; exact fm.2 i (by omega)
    · unfold hs_; rw [if_neg (fun z => z2 z.1 z.2), if_neg (fun z => z1 z.1)]
  · refine G_aload_n (i := 0) dX12_take_41 rfl rfl ?_
    refine G_getR fX12_117 rfl dX12_take_42 (o81 hT) (r81_35 hT) ?_
    refine G_iload_n (i := 2) dX12_take_45 rfl rfl ?_
    refine G_iald (v := F (((k : Int) - 1).toNat)) dX12_take_46 (o107 hT) (by omega) (fm.2 (((k : Int) - 1).toNat) (by omega)) ?_
    have k46 := w_cd_r (ok (((k : Int) - 1).toNat) (by omega))
    refine G_iload_n (i := 1) dX12_take_47 rfl rfl ?_
    refine G_iconst dX12_take_48 ?_
    refine G_ixor dX12_take_49 ?_
    refine G_icmp_ne (tgt := 94) dX12_take_50 (by decide) (by omega) (by omega) (fun c_2 => ?_) (fun c_2 => ?_)
    · refine G_aload_n (i := 0) dX12_take_94 rfl rfl ?_
      refine G_getR fX12_117 rfl dX12_take_95 (o81 hT) (r81_35 hT) ?_
      refine G_aload_n (i := 0) dX12_take_98 rfl rfl ?_
      refine G_getI (v := (m : Int)) fX12_123 rfl dX12_take_99 (o81 hT) (fm.1) ?_
      refine G_iload_n (i := 1) dX12_take_102 rfl rfl ?_
      refine G_iastk (((m : Int)).toNat) dX12_take_103 (o107 hT) (by omega) rfl ?_
      refine G_aload_n (i := 0) dX12_take_104 rfl rfl ?_
      refine G_dup dX12_take_105 ?_
      refine G_getI (v := (m : Int)) fX12_123 rfl dX12_take_106 (o81 hT) ((hs_na (by decide)).trans (fm.1)) ?_
      refine G_iconst dX12_take_109 ?_
      refine G_iadd dX12_take_110 ?_
      refine G_putI fX12_123 dX12_take_111 (o81 hT) ?_
      refine G_vretZ rfl dX12_take_114 ?_
      have nh : ¬ w_hit (h 81 1) m F x := by unfold w_hit; rw [el]; intro z; obtain ⟨z1, z2⟩ := z; rw [show k - 1 = ((k : Int) - 1).toNat by omega] at z2; first | omega | (apply id; assumption) | (rename_i w1; exact w1 z2) | contradiction
      refine ⟨⟨?_, fun i hi => ?_⟩, fun a i z1 z2 => ?_⟩
      · rw [hs_eq]; unfold w_m; rw [if_neg nh]; omega
      · unfold w_m at hi; rw [if_neg nh] at hi; unfold w_F; rw [if_neg nh, hs_na (by decide)]; unfold hs_; by_cases u : i = m
        · rw [if_pos ⟨rfl, u⟩, if_pos u]
        · rw [if_neg (fun z => u z.2), if_neg u]; exact fm.2 i (by omega)
      · unfold hs_; rw [if_neg (fun z => z2 z.1 z.2), if_neg (fun z => z1 z.1)]
    · refine G_aload_n (i := 0) dX12_take_53 rfl rfl ?_
      refine G_dup dX12_take_54 ?_
      refine G_getI (v := (m : Int)) fX12_123 rfl dX12_take_55 (o81 hT) (fm.1) ?_
      refine G_iconst dX12_take_58 ?_
      refine G_isub dX12_take_59 ?_
      refine G_putI fX12_123 dX12_take_60 (o81 hT) ?_
      refine G_iload_n (i := 2) dX12_take_63 rfl rfl ?_
      refine G_istore_n (i := 3) (ls' := [some (.inr (some 81)), some (.inl x), some (.inl ((k : Int) - 1)), some (.inl ((k : Int) - 1))]) dX12_take_64 rfl (by decide) rfl ?_
      have hl := w_last_le (h 81 1) F x m
      obtain ⟨j, hj⟩ : ∃ j : Nat, k = j + 1 := ⟨k - 1, by omega⟩
      subst hj
      have := m_take_R d τ h hT m j x (((j + 1 : Nat) : Int) - 1) (by omega) (by omega) _ j (Nat.lt_succ_self _) (by omega) (by omega)
      rw [hf_nil] at this
      have ez : ((j + 1 : Nat) : Int) - 1 = (j : Int) := by omega
      rw [ez] at this ⊢
      refine G_mono ?_ this
      rintro r τ' h' ⟨q1, q2, q3⟩
      refine ⟨q1, q2, ?_⟩
      subst q3
      have hit : w_hit (h 81 1) m F x := by unfold w_hit; rw [el]; refine ⟨by omega, ?_⟩; rw [show j + 1 - 1 = j from rfl]; rw [← show (((j + 1 : Nat) : Int) - 1).toNat = j by omega]; assumption
      refine ⟨⟨?_, fun i hi => ?_⟩, fun a i z1 z2 => ?_⟩
      · rw [hf_na (by decide), hs_eq]; unfold w_m; rw [if_pos hit]; omega
      · unfold w_m at hi; rw [if_pos hit] at hi; unfold w_F; rw [if_pos hit, el]; unfold hf_; by_cases u : i < j
        · rw [if_neg (by omega), if_pos (by omega), hs_na (by decide)]; exact fm.2 i (by omega)
        · rw [if_pos (by omega), if_neg (by omega)]; exact fm.2 (i + 1) (by omega)
      · unfold hf_ hs_; rw [if_neg (fun z => z1 z.1), if_neg (fun z => z2 z.1 z.2)]

theorem m_take_L (d : Nat) (τ : TT) (h : HT) (hT : TK τ) (m : Nat) (F : Nat → Int) (x : Int) (hn : 3 ≤ h 81 1 ∧ h 81 1 ≤ 9) (hm : m < 300) (hx : w_cd (h 81 1) x) (fm : FMd h m F) (ok : ∀ j : Nat, j < m → w_cd (h 81 1) (F j)) : ∀ (n_ : Nat) (k : Nat), k < n_ → k ≤ m → w_last (h 81 1) F x m = w_last (h 81 1) F x k → G_ mX12_take (d + 2) 0 0 7 [some (.inr (some 81)), some (.inl x), some (.inl ((k : Int) - 1)), none] [] τ h (Zv τ fun h' => FMd h' (w_m (h 81 1) m F x) (w_F (h 81 1) m F x) ∧ FRg h h') := by
  intro n_
  induction n_ with
  | zero => intro k hm_; exact absurd hm_ (Nat.not_lt_zero _)
  | succ n_ ih =>
    intro k hm_ hk el
    have hxr := w_cd_r hx
    refine G_iload_n (i := 2) dX12_take_7 rfl rfl ?_
    refine G_if_lt (tgt := 37) dX12_take_8 (by decide) (by omega) (fun c_1 => ?_) (fun c_1 => ?_)
    · exact m_take_E d τ h hT m F x hn hm hx fm ok k (by rw [el, show k = 0 by omega]; rfl) hk
    · refine G_aload_n (i := 0) dX12_take_11 rfl rfl ?_
      refine G_aload_n (i := 0) dX12_take_12 rfl rfl ?_
      refine G_getR fX12_117 rfl dX12_take_13 (o81 hT) (r81_35 hT) ?_
      refine G_iload_n (i := 2) dX12_take_16 rfl rfl ?_
      refine G_iald (v := F (((k : Int) - 1).toNat)) dX12_take_17 (o107 hT) (by omega) (fm.2 (((k : Int) - 1).toNat) (by omega)) ?_
      have k17 := w_cd_r (ok (((k : Int) - 1).toNat) (by omega))
      refine G_bipush dX12_take_18 (by decide) ?_
      refine G_idiv dX12_take_20 (by omega) (by decide) ?_
      refine G_iload_n (i := 1) dX12_take_21 rfl rfl ?_
      refine G_bipush dX12_take_22 (by decide) ?_
      refine G_idiv dX12_take_24 (by omega) (by decide) ?_
      refine G_cVq (as := [.inl ((F (((k : Int) - 1).toNat)).tdiv 10), .inl (x.tdiv 10)]) qX12_279 (m_areFar d τ h hT ((F (((k : Int) - 1).toNat)).tdiv 10) (x.tdiv 10) (by omega) (by omega) (by omega)) rfl rfl (Nat.le_of_ble_eq_true rfl) (o81 hT) dX12_take_25 ?_
      refine G_ifb_eq (tgt := 37) dX12_take_28 (by decide) (fun c_2 => ?_) (fun c_2 => ?_)
      · refine m_take_E d τ h hT m F x hn hm hx fm ok k ?_ hk
        obtain ⟨j, hj⟩ : ∃ j : Nat, k = j + 1 := ⟨k - 1, by omega⟩
        subst hj
        rw [el]; show (if f_far _ _ _ then _ else _) = _
        rw [if_neg]
        rw [← show (((j + 1 : Nat) : Int) - 1).toNat = j by omega]; assumption
      · refine G_iinc (ls' := [some (.inr (some 81)), some (.inl x), some (.inl (((k : Int) - 1) + (-1))), none]) dX12_take_31 (by decide) rfl rfl ?_
        refine G_goto (tgt := 7) dX12_take_34 (by decide) ?_
        obtain ⟨j, hj⟩ : ∃ j : Nat, k = j + 1 := ⟨k - 1, by omega⟩
        subst hj
        rw [show ((j + 1 : Nat) : Int) - 1 + (-1) = (j : Int) - 1 by omega]
        refine ih j (by omega) (by omega) ?_
        rw [el]; show (if f_far _ _ _ then _ else _) = _
        rw [if_pos]
        rw [← show (((j + 1 : Nat) : Int) - 1).toNat = j by omega]; assumption

theorem m_take (d : Nat) (τ : TT) (h : HT) (hT : TK τ) (m : Nat) (F : Nat → Int) (x : Int) (hn : 3 ≤ h 81 1 ∧ h 81 1 ≤ 9) (hm : m < 300) (hx : w_cd (h 81 1) x) (fm : FMd h m F) (ok : ∀ j : Nat, j < m → w_cd (h 81 1) (F j)) : S_ mX12_take (d + 2) 0 0 [.inr (some 81), .inl x] τ h (Zv τ fun h' => FMd h' (w_m (h 81 1) m F x) (w_F (h 81 1) m F x) ∧ FRg h h') := by
  refine S_go (k := 2) (ls := [some (.inr (some 81)), some (.inl x), none, none]) (by decide) rfl (Nat.le_of_ble_eq_true rfl) rfl ?_
  refine G_aload_n (i := 0) dX12_take_0 rfl rfl ?_
  refine G_getI (v := (m : Int)) fX12_123 rfl dX12_take_1 (o81 hT) (fm.1) ?_
  refine G_iconst dX12_take_4 ?_
  refine G_isub dX12_take_5 ?_
  refine G_istore_n (i := 2) (ls' := [some (.inr (some 81)), some (.inl x), some (.inl ((m : Int) - 1)), none]) dX12_take_6 rfl (by decide) rfl ?_
  exact m_take_L d τ h hT m F x hn hm hx fm ok _ m (Nat.lt_succ_self _) (Nat.le_refl _) rfl

theorem m_bring_S (d : Nat) (τ : TT) (h : HT) (hT : TK τ) (i b : Nat) (v bb : Int) (hb : i ≤ b ∧ b < 300) : ∀ (n_ : Nat) (j : Nat), j < n_ → i ≤ j → j ≤ b → G_ mX12_bringLeast (d + 2) 0 0 112 [some (.inr (some 81)), some (.inl (i : Int)), some (.inl bb), some (.inl v), some (.inl (j : Int)), none] [] τ (hf_ h 107 (j + 1) (b + 1) (fun q => h 107 (q - 1))) (Zv τ fun h' => h' = hs_ (hf_ h 107 (i + 1) (b + 1) (fun q => h 107 (q - 1))) 107 i v) := by
  intro n_
  induction n_ with
  | zero => intro j hm_; exact absurd hm_ (Nat.not_lt_zero _)
  | succ n_ ih =>
    intro j hm_ hj hjb
    refine G_iload dX12_bringLeast_112 rfl ?_
    refine G_iload_n (i := 1) dX12_bringLeast_114 rfl rfl ?_
    refine G_icmp_le (tgt := 140) dX12_bringLeast_115 (by decide) (by omega) (by omega) (fun c_1 => ?_) (fun c_1 => ?_)
    · refine G_aload_n (i := 0) dX12_bringLeast_140 rfl rfl ?_
      refine G_getR fX12_117 rfl dX12_bringLeast_141 (o81 hT) (r81_35 hT) ?_
      refine G_iload_n (i := 1) dX12_bringLeast_144 rfl rfl ?_
      refine G_iload_n (i := 3) dX12_bringLeast_145 rfl rfl ?_
      refine G_iastk i dX12_bringLeast_146 (o107 hT) (by omega) rfl ?_
      refine G_vretZ rfl dX12_bringLeast_147 ?_
      obtain rfl : j = i := by omega
      rfl
    · refine G_aload_n (i := 0) dX12_bringLeast_118 rfl rfl ?_
      refine G_getR fX12_117 rfl dX12_bringLeast_119 (o81 hT) (r81_35 hT) ?_
      refine G_iload dX12_bringLeast_122 rfl ?_
      refine G_aload_n (i := 0) dX12_bringLeast_124 rfl rfl ?_
      refine G_getR fX12_117 rfl dX12_bringLeast_125 (o81 hT) (r81_35 hT) ?_
      refine G_iload dX12_bringLeast_128 rfl ?_
      refine G_iconst dX12_bringLeast_130 ?_
      refine G_isub dX12_bringLeast_131 ?_
      refine G_iald (v := h 107 (((j : Int) - 1).toNat)) dX12_bringLeast_132 (o107 hT) (by omega) (hf_ni (by omega)) ?_
      refine G_iastk j dX12_bringLeast_133 (o107 hT) (by omega) rfl ?_
      refine G_iinc (ls' := [some (.inr (some 81)), some (.inl (i : Int)), some (.inl bb), some (.inl v), some (.inl ((j : Int) + (-1))), none]) dX12_bringLeast_134 (by decide) rfl rfl ?_
      refine G_goto (tgt := 112) dX12_bringLeast_137 (by decide) ?_
      obtain ⟨t, ht⟩ : ∃ t : Nat, j = t + 1 := ⟨j - 1, by omega⟩
      subst ht
      rw [show ((t + 1 : Nat) : Int) + (-1) = (t : Int) by omega, hf_cons (by omega) (by rw [show (((t + 1 : Nat) : Int) - 1).toNat = t + 1 - 1 by omega])]
      exact ih t (by omega) (by omega) (by omega)

theorem w_fr_s {n : Int} {F : Nat → Int} {i b k q : Nat} (hi : i ≤ q) : ((F k < F b ∧ ∀ j : Nat, j < q → (i ≤ j → f_far n ((F j).tdiv 10) ((F k).tdiv 10))) ∧ f_far n ((F q).tdiv 10) ((F k).tdiv 10)) ↔ (F k < F b ∧ ∀ j : Nat, j < q + 1 → (i ≤ j → f_far n ((F j).tdiv 10) ((F k).tdiv 10))) := by
  constructor
  · rintro ⟨⟨a, b⟩, c⟩
    refine ⟨a, fun j hj hij => ?_⟩
    rcases Nat.lt_succ_iff_lt_or_eq.mp hj with z | z
    · exact b j z hij
    · subst z; exact c
  · rintro ⟨a, b⟩
    exact ⟨⟨a, fun j hj hij => b j (by omega) hij⟩, b q (by omega) hi⟩
theorem m_bring_I (d : Nat) (τ : TT) (h : HT) (hT : TK τ) (Z : ZT) (m : Nat) (F : Nat → Int) (i : Nat) (hn : 3 ≤ h 81 1 ∧ h 81 1 ≤ 9) (hm : m ≤ 300) (hi : i < m) (fm : FMd h m F) (ok : ∀ j : Nat, j < m → w_cd (h 81 1) (F j)) (b k : Nat) (hb : b < m) (hk : k < m) (K : G_ mX12_bringLeast (d + 2) 0 0 89 [some (.inr (some 81)), some (.inl (i : Int)), some (.inl (b : Int)), some (.inl (k : Int)), some (.inl (if (F k < F b ∧ ∀ y : Nat, y < k → (i ≤ y → f_far (h 81 1) ((F y).tdiv 10) ((F k).tdiv 10))) then 1 else 0)), none] [] τ h (Z)) : ∀ (n_ : Nat) (q : Nat), k - q < n_ → q ≤ k → i ≤ q → G_ mX12_bringLeast (d + 2) 0 0 39 [some (.inr (some 81)), some (.inl (i : Int)), some (.inl (b : Int)), some (.inl (k : Int)), some (.inl (if (F k < F b ∧ ∀ y : Nat, y < q → (i ≤ y → f_far (h 81 1) ((F y).tdiv 10) ((F k).tdiv 10))) then 1 else 0)), some (.inl (q : Int))] [] τ h (Z) := by
  intro n_
  induction n_ with
  | zero => intro q hm_; exact absurd hm_ (Nat.not_lt_zero _)
  | succ n_ ih =>
    intro q hm_ hq hiq
    refine G_iload dX12_bringLeast_39 rfl ?_
    refine G_iload_n (i := 3) dX12_bringLeast_41 rfl rfl ?_
    refine G_icmp_ge (tgt := 89) dX12_bringLeast_42 (by decide) (by omega) (by omega) (fun c_1 => ?_) (fun c_1 => ?_)
    · refine G_lsub (ls' := [some (.inr (some 81)), some (.inl (i : Int)), some (.inl (b : Int)), some (.inl (k : Int)), some (.inl (if (F k < F b ∧ ∀ y : Nat, y < q → (i ≤ y → f_far (h 81 1) ((F y).tdiv 10) ((F k).tdiv 10))) then 1 else 0)), none]) (LS_same (LS_same (LS_same (LS_same (LS_same (LS_none LS_nil)))))) ?_
      obtain rfl : q = k := by omega
      exact K
    · refine G_iload dX12_bringLeast_45 rfl ?_
      suffices K_4 : ∀ x_3 : Int, x_3 = (if (F k < F b ∧ ∀ y : Nat, y < q → (i ≤ y → f_far (h 81 1) ((F y).tdiv 10) ((F k).tdiv 10))) then (if (f_far (h 81 1) ((F q).tdiv 10) ((F k).tdiv 10)) then 1 else 0) else 0) → G_ mX12_bringLeast (d + 2) 0 0 81 [some (.inr (some 81)), some (.inl (i : Int)), some (.inl (b : Int)), some (.inl (k : Int)), some (.inl (if (F k < F b ∧ ∀ y : Nat, y < q → (i ≤ y → f_far (h 81 1) ((F y).tdiv 10) ((F k).tdiv 10))) then 1 else 0)), some (.inl (q : Int))] [.inl x_3] τ h (Z) by
        refine G_ifb_eq (tgt := 80) dX12_bringLeast_47 (by decide) (fun c_2 => ?_) (fun c_2 => ?_)
        · refine G_iconst dX12_bringLeast_80 ?_
          exact K_4 _ (if_neg c_2).symm
        · refine G_aload_n (i := 0) dX12_bringLeast_50 rfl rfl ?_
          refine G_aload_n (i := 0) dX12_bringLeast_51 rfl rfl ?_
          refine G_getR fX12_117 rfl dX12_bringLeast_52 (o81 hT) (r81_35 hT) ?_
          refine G_iload dX12_bringLeast_55 rfl ?_
          refine G_iald (v := F q) dX12_bringLeast_57 (o107 hT) (by omega) (fm.2 q (by omega)) ?_
          have k57 := w_cd_r (ok q (by omega))
          refine G_bipush dX12_bringLeast_58 (by decide) ?_
          refine G_idiv dX12_bringLeast_60 (by omega) (by decide) ?_
          refine G_aload_n (i := 0) dX12_bringLeast_61 rfl rfl ?_
          refine G_getR fX12_117 rfl dX12_bringLeast_62 (o81 hT) (r81_35 hT) ?_
          refine G_iload_n (i := 3) dX12_bringLeast_65 rfl rfl ?_
          refine G_iald (v := F k) dX12_bringLeast_66 (o107 hT) (by omega) (fm.2 k (by omega)) ?_
          have k66 := w_cd_r (ok k (by omega))
          refine G_bipush dX12_bringLeast_67 (by decide) ?_
          refine G_idiv dX12_bringLeast_69 (by omega) (by decide) ?_
          refine G_cVq (as := [.inl ((F q).tdiv 10), .inl ((F k).tdiv 10)]) qX12_279 (m_areFar d τ h hT ((F q).tdiv 10) ((F k).tdiv 10) (by omega) (by omega) (by omega)) rfl rfl (Nat.le_of_ble_eq_true rfl) (o81 hT) dX12_bringLeast_70 ?_
          refine G_ifb_eq (tgt := 80) dX12_bringLeast_73 (by decide) (fun c_5 => ?_) (fun c_5 => ?_)
          · refine G_iconst dX12_bringLeast_80 ?_
            exact K_4 _ ((if_pos c_2).trans (if_neg c_5)).symm
          · refine G_iconst dX12_bringLeast_76 ?_
            refine G_goto (tgt := 81) dX12_bringLeast_77 (by decide) ?_
            exact K_4 _ ((if_pos c_2).trans (if_pos c_5)).symm
      intro x_3 ex_3
      refine G_istore (ls' := [some (.inr (some 81)), some (.inl (i : Int)), some (.inl (b : Int)), some (.inl (k : Int)), some (.inl x_3), some (.inl (q : Int))]) dX12_bringLeast_81 (by decide) rfl ?_
      refine G_iinc (ls' := [some (.inr (some 81)), some (.inl (i : Int)), some (.inl (b : Int)), some (.inl (k : Int)), some (.inl x_3), some (.inl ((q : Int) + 1))]) dX12_bringLeast_83 (by decide) rfl rfl ?_
      refine G_goto (tgt := 39) dX12_bringLeast_86 (by decide) ?_
      rw [show x_3 = (if (F k < F b ∧ ∀ y : Nat, y < q + 1 → (i ≤ y → f_far (h 81 1) ((F y).tdiv 10) ((F k).tdiv 10))) then 1 else 0) from by rw [ex_3, bAnd]; exact bCg (w_fr_s hiq)]
      exact ih (q + 1) (by omega) (by omega) (by omega)

theorem m_bring_L (d : Nat) (τ : TT) (h : HT) (hT : TK τ) (m : Nat) (F : Nat → Int) (i : Nat) (hn : 3 ≤ h 81 1 ∧ h 81 1 ≤ 9) (hm : m ≤ 300) (hi : i < m) (fm : FMd h m F) (ok : ∀ j : Nat, j < m → w_cd (h 81 1) (F j)) : ∀ (n_ : Nat) (t : Nat), m - t < n_ → t ≤ m - (i + 1) → G_ mX12_bringLeast (d + 2) 0 0 6 [some (.inr (some 81)), some (.inl (i : Int)), some (.inl ((w_bst (h 81 1) F i t) : Int)), some (.inl ((i + 1 + t) : Int)), none, none] [] τ h (Zv τ fun h' => FMd h' m (w_rot F i (w_bst (h 81 1) F i (m - (i + 1)))) ∧ FRg h h') := by
  intro n_
  induction n_ with
  | zero => intro t hm_; exact absurd hm_ (Nat.not_lt_zero _)
  | succ n_ ih =>
    intro t hm_ ht
    have hbt := w_bst_r (h 81 1) F i t
    refine G_iload_n (i := 3) dX12_bringLeast_6 rfl rfl ?_
    refine G_aload_n (i := 0) dX12_bringLeast_7 rfl rfl ?_
    refine G_getI (v := (m : Int)) fX12_123 rfl dX12_bringLeast_8 (o81 hT) (fm.1) ?_
    refine G_icmp_ge (tgt := 102) dX12_bringLeast_11 (by decide) (by omega) (by omega) (fun c_1 => ?_) (fun c_1 => ?_)
    · refine G_aload_n (i := 0) dX12_bringLeast_102 rfl rfl ?_
      refine G_getR fX12_117 rfl dX12_bringLeast_103 (o81 hT) (r81_35 hT) ?_
      refine G_iload_n (i := 2) dX12_bringLeast_106 rfl rfl ?_
      refine G_iald (v := F (w_bst (h 81 1) F i t)) dX12_bringLeast_107 (o107 hT) (by omega) (fm.2 (w_bst (h 81 1) F i t) (by omega)) ?_
      have k107 := w_cd_r (ok (w_bst (h 81 1) F i t) (by omega))
      refine G_istore_n (i := 3) (ls' := [some (.inr (some 81)), some (.inl (i : Int)), some (.inl ((w_bst (h 81 1) F i t) : Int)), some (.inl (F (w_bst (h 81 1) F i t))), none, none]) dX12_bringLeast_108 rfl (by decide) rfl ?_
      refine G_iload_n (i := 2) dX12_bringLeast_109 rfl rfl ?_
      refine G_istore (ls' := [some (.inr (some 81)), some (.inl (i : Int)), some (.inl ((w_bst (h 81 1) F i t) : Int)), some (.inl (F (w_bst (h 81 1) F i t))), some (.inl ((w_bst (h 81 1) F i t) : Int)), none]) dX12_bringLeast_110 (by decide) rfl ?_
      obtain rfl : t = m - (i + 1) := by omega
      have hb := w_bst_r (h 81 1) F i (m - (i + 1))
      have := m_bring_S d τ h hT i (w_bst (h 81 1) F i (m - (i + 1))) (F (w_bst (h 81 1) F i (m - (i + 1)))) ((w_bst (h 81 1) F i (m - (i + 1))) : Int) (by omega) _ (w_bst (h 81 1) F i (m - (i + 1))) (Nat.lt_succ_self _) (by omega) (Nat.le_refl _)
      rw [hf_nil] at this
      refine G_mono ?_ (G_lsub (LS_same (LS_same (LS_same (LS_same (LS_same (LS_none LS_nil)))))) this)
      rintro r τ' h' ⟨q1, q2, q3⟩
      refine ⟨q1, q2, ?_⟩
      subst q3
      refine ⟨⟨?_, fun j hj => ?_⟩, fun a j z1 z2 => ?_⟩
      · rw [hs_na (by decide), hf_na (by decide)]; exact fm.1
      · unfold hs_ hf_ w_rot; by_cases u : j = i
        · rw [if_pos ⟨rfl, u⟩, if_pos u]
        · rw [if_neg (fun z => u z.2), if_neg u]; by_cases u2 : i < j ∧ j ≤ (w_bst (h 81 1) F i (m - (i + 1)))
          · rw [if_pos ⟨rfl, by omega, by omega⟩, if_pos u2]; exact fm.2 (j - 1) (by omega)
          · rw [if_neg (fun z => u2 (by omega)), if_neg u2]; exact fm.2 j hj
      · unfold hs_ hf_; rw [if_neg (fun z => z1 z.1), if_neg (fun z => z1 z.1)]
    · refine G_aload_n (i := 0) dX12_bringLeast_14 rfl rfl ?_
      refine G_getR fX12_117 rfl dX12_bringLeast_15 (o81 hT) (r81_35 hT) ?_
      refine G_iload_n (i := 3) dX12_bringLeast_18 rfl rfl ?_
      refine G_iald (v := F (i + 1 + t)) dX12_bringLeast_19 (o107 hT) (by omega) (fm.2 (i + 1 + t) (by omega)) ?_
      have k19 := w_cd_r (ok (i + 1 + t) (by omega))
      refine G_aload_n (i := 0) dX12_bringLeast_20 rfl rfl ?_
      refine G_getR fX12_117 rfl dX12_bringLeast_21 (o81 hT) (r81_35 hT) ?_
      refine G_iload_n (i := 2) dX12_bringLeast_24 rfl rfl ?_
      refine G_iald (v := F (w_bst (h 81 1) F i t)) dX12_bringLeast_25 (o107 hT) (by omega) (fm.2 (w_bst (h 81 1) F i t) (by omega)) ?_
      have k25 := w_cd_r (ok (w_bst (h 81 1) F i t) (by omega))
      suffices K_4 : ∀ x_3 : Int, x_3 = (if (F (w_bst (h 81 1) F i t)) ≤ (F (i + 1 + t)) then 0 else 1) → G_ mX12_bringLeast (d + 2) 0 0 34 [some (.inr (some 81)), some (.inl (i : Int)), some (.inl ((w_bst (h 81 1) F i t) : Int)), some (.inl ((i + 1 + t) : Int)), none, none] [.inl x_3] τ h (Zv τ fun h' => FMd h' m (w_rot F i (w_bst (h 81 1) F i (m - (i + 1)))) ∧ FRg h h') by
        refine G_icmp_ge (tgt := 33) dX12_bringLeast_26 (by decide) (by omega) (by omega) (fun c_2 => ?_) (fun c_2 => ?_)
        · refine G_iconst dX12_bringLeast_33 ?_
          exact K_4 _ (if_pos c_2).symm
        · refine G_iconst dX12_bringLeast_29 ?_
          refine G_goto (tgt := 34) dX12_bringLeast_30 (by decide) ?_
          exact K_4 _ (if_neg c_2).symm
      intro x_3 ex_3
      refine G_istore (ls' := [some (.inr (some 81)), some (.inl (i : Int)), some (.inl ((w_bst (h 81 1) F i t) : Int)), some (.inl ((i + 1 + t) : Int)), some (.inl x_3), none]) dX12_bringLeast_34 (by decide) rfl ?_
      refine G_iload_n (i := 1) dX12_bringLeast_36 rfl rfl ?_
      refine G_istore (ls' := [some (.inr (some 81)), some (.inl (i : Int)), some (.inl ((w_bst (h 81 1) F i t) : Int)), some (.inl ((i + 1 + t) : Int)), some (.inl x_3), some (.inl (i : Int))]) dX12_bringLeast_37 (by decide) rfl ?_
      have hb := w_bst_r (h 81 1) F i t
      suffices K : G_ mX12_bringLeast (d + 2) 0 0 89 [some (.inr (some 81)), some (.inl (i : Int)), some (.inl ((w_bst (h 81 1) F i t) : Int)), some (.inl ((i + 1 + t) : Int)), some (.inl (if (F (i + 1 + t) < F (w_bst (h 81 1) F i t) ∧ ∀ y : Nat, y < i + 1 + t → (i ≤ y → f_far (h 81 1) ((F y).tdiv 10) ((F (i + 1 + t)).tdiv 10))) then 1 else 0)), none] [] τ h (Zv τ fun h' => FMd h' m (w_rot F i (w_bst (h 81 1) F i (m - (i + 1)))) ∧ FRg h h') by
        have := m_bring_I d τ h hT _ m F i hn hm hi fm ok (w_bst (h 81 1) F i t) (i + 1 + t) (by omega) (by omega) K _ i (Nat.lt_succ_self _) (by omega) (Nat.le_refl _)
        rw [show x_3 = (if (F (i + 1 + t) < F (w_bst (h 81 1) F i t) ∧ ∀ y : Nat, y < i → (i ≤ y → f_far (h 81 1) ((F y).tdiv 10) ((F (i + 1 + t)).tdiv 10))) then 1 else 0) from by rw [ex_3, bNot]; exact bCg ⟨fun z => ⟨Int.not_le.mp z, fun q h1 h2 => absurd h1 (by omega)⟩, fun z => Int.not_le.mpr z.1⟩]
        exact this
      refine G_iload dX12_bringLeast_89 rfl ?_
      refine G_ifb_eq (tgt := 96) dX12_bringLeast_91 (by decide) (fun c_5 => ?_) (fun c_5 => ?_)
      · refine G_iinc (ls' := [some (.inr (some 81)), some (.inl (i : Int)), some (.inl ((w_bst (h 81 1) F i t) : Int)), some (.inl (((i + 1 + t) : Int) + 1)), some (.inl (if (F (i + 1 + t) < F (w_bst (h 81 1) F i t) ∧ ∀ y : Nat, y < i + 1 + t → (i ≤ y → f_far (h 81 1) ((F y).tdiv 10) ((F (i + 1 + t)).tdiv 10))) then 1 else 0)), none]) dX12_bringLeast_96 (by decide) rfl rfl ?_
        refine G_goto (tgt := 6) dX12_bringLeast_99 (by decide) ?_
        refine G_lsub (ls' := [some (.inr (some 81)), some (.inl (i : Int)), some (.inl ((w_bst (h 81 1) F i t) : Int)), some (.inl (((i + 1 + t) : Int) + 1)), none, none]) (LS_same (LS_same (LS_same (LS_same (LS_none (LS_none LS_nil)))))) ?_
        have et : w_bst (h 81 1) F i (t + 1) = (w_bst (h 81 1) F i t) := by show (if _ then _ else _) = _; rw [if_neg c_5]
        have := ih (t + 1) (by omega) (by omega)
        rw [et] at this
        exact this
      · refine G_iload_n (i := 3) dX12_bringLeast_94 rfl rfl ?_
        refine G_istore_n (i := 2) (ls' := [some (.inr (some 81)), some (.inl (i : Int)), some (.inl ((i + 1 + t) : Int)), some (.inl ((i + 1 + t) : Int)), some (.inl (if (F (i + 1 + t) < F (w_bst (h 81 1) F i t) ∧ ∀ y : Nat, y < i + 1 + t → (i ≤ y → f_far (h 81 1) ((F y).tdiv 10) ((F (i + 1 + t)).tdiv 10))) then 1 else 0)), none]) dX12_bringLeast_95 rfl (by decide) rfl ?_
        refine G_iinc (ls' := [some (.inr (some 81)), some (.inl (i : Int)), some (.inl ((i + 1 + t) : Int)), some (.inl (((i + 1 + t) : Int) + 1)), some (.inl (if (F (i + 1 + t) < F (w_bst (h 81 1) F i t) ∧ ∀ y : Nat, y < i + 1 + t → (i ≤ y → f_far (h 81 1) ((F y).tdiv 10) ((F (i + 1 + t)).tdiv 10))) then 1 else 0)), none]) dX12_bringLeast_96 (by decide) rfl rfl ?_
        refine G_goto (tgt := 6) dX12_bringLeast_99 (by decide) ?_
        refine G_lsub (ls' := [some (.inr (some 81)), some (.inl (i : Int)), some (.inl ((i + 1 + t) : Int)), some (.inl (((i + 1 + t) : Int) + 1)), none, none]) (LS_same (LS_same (LS_same (LS_same (LS_none (LS_none LS_nil)))))) ?_
        have et : w_bst (h 81 1) F i (t + 1) = i + 1 + t := by show (if _ then _ else _) = _; rw [if_pos c_5]
        have := ih (t + 1) (by omega) (by omega)
        rw [et] at this
        exact this

theorem m_bringLeast (d : Nat) (τ : TT) (h : HT) (hT : TK τ) (m : Nat) (F : Nat → Int) (i : Nat) (hn : 3 ≤ h 81 1 ∧ h 81 1 ≤ 9) (hm : m ≤ 300) (hi : i < m) (fm : FMd h m F) (ok : ∀ j : Nat, j < m → w_cd (h 81 1) (F j)) : S_ mX12_bringLeast (d + 2) 0 0 [.inr (some 81), .inl (i : Int)] τ h (Zv τ fun h' => FMd h' m (w_rot F i (w_bst (h 81 1) F i (m - (i + 1)))) ∧ FRg h h') := by
  refine S_go (k := 4) (ls := [some (.inr (some 81)), some (.inl (i : Int)), none, none, none, none]) (by decide) rfl (Nat.le_of_ble_eq_true rfl) rfl ?_
  refine G_iload_n (i := 1) dX12_bringLeast_0 rfl rfl ?_
  refine G_istore_n (i := 2) (ls' := [some (.inr (some 81)), some (.inl (i : Int)), some (.inl (i : Int)), none, none, none]) dX12_bringLeast_1 rfl (by decide) rfl ?_
  refine G_iload_n (i := 1) dX12_bringLeast_2 rfl rfl ?_
  refine G_iconst dX12_bringLeast_3 ?_
  refine G_iadd dX12_bringLeast_4 ?_
  refine G_istore_n (i := 3) (ls' := [some (.inr (some 81)), some (.inl (i : Int)), some (.inl (i : Int)), some (.inl ((i : Int) + 1)), none, none]) dX12_bringLeast_5 rfl (by decide) rfl ?_
  exact m_bring_L d τ h hT m F i hn hm hi fm ok _ 0 (Nat.lt_succ_self _) (Nat.zero_le _)

theorem tm_r (a : Int) {n : Int} (hn : 0 < n) : -n < a.tmod n ∧ a.tmod n < n := by
  have h1 := Int.tmod_lt_of_pos (-a) hn
  rw [Int.neg_tmod] at h1
  have h2 := Int.tmod_lt_of_pos a hn
  omega
theorem f_okc_e {s : Int} (q : f_okc s) : 0 ≤ s ∧ s ≤ 101 ∧ 0 ≤ s.tdiv 10 ∧ s.tdiv 10 ≤ 10 ∧ 0 ≤ s.tmod 10 ∧ s.tmod 10 ≤ 1 := by
  unfold f_okc at q
  rcases q with ⟨z1, z2, z3⟩ | z | z
  · have e1 : s.tdiv 10 = s / 10 := Int.tdiv_eq_ediv_of_nonneg z1
    rw [e1]
    omega
  · subst z; decide
  · subst z; decide
theorem w_run_no {n : Int} {S : Nat → Int} {k : Nat} (q : w_run n S k = none) : ∀ j : Nat, w_run n S (k + j) = none
  | 0 => q
  | j + 1 => by
    show (w_run n S (k + j)).bind _ = none
    rw [w_run_no q j]; rfl
theorem w_run_s {n : Int} {S : Nat → Int} {k : Nat} {W : WT} (q : w_run n S k = some W) : w_run n S (k + 1) = w_st n W (S k) := by
  show (w_run n S k).bind _ = _
  rw [q]; rfl
theorem f_S_c {h g : HT} (x : FRk h g) (f : Int) : f_S g f = f_S h f := by
  funext k; unfold f_S; rw [x 103 _ (by decide) (by decide) (by omega), x 93 k (by decide) (by decide) (by omega)]
theorem f_N_c {h g : HT} (x : FRk h g) (f : Int) : f_N g f = f_N h f := by
  unfold f_N; rw [x 102 _ (by decide) (by decide) (by omega), x 81 14 (by decide) (by decide) (by omega)]
theorem f_S_ok {h : HT} (x : MI h) {f : Int} (hf : f = -1 ∨ (0 ≤ f ∧ f < h 81 26)) : 0 ≤ f_N h f ∧ f_N h f ≤ 300 ∧ ∀ j : Nat, (j : Int) < f_N h f → f_okc (f_S h f j) := by
  unfold f_N f_S
  rcases hf with z | z
  · rw [if_neg (by omega)]
    have := x.s_
    refine ⟨this.1, this.2, fun j hj => ?_⟩
    rw [if_neg (by omega)]
    exact (x.st_ j hj).1
  · rw [if_pos z.1]
    have := x.ma_ f.toNat (by omega)
    refine ⟨by omega, by omega, fun j hj => ?_⟩
    rw [if_pos z.1]
    exact x.to_ f.toNat j (by omega) hj
theorem m_find_2 (d : Nat) (τ : TT) (h : HT) (hT : TK τ) (f : Int) (hf : -1 ≤ f ∧ f ≤ 10) (hn : 3 ≤ h 81 1 ∧ h 81 1 ≤ 9) (sok : 0 ≤ f_N h f ∧ f_N h f ≤ 300 ∧ ∀ j : Nat, (j : Int) < f_N h f → f_okc (f_S h f j)) (t : Int) (m_ : Nat) (F : Nat → Int) (er : w_run (h 81 1) (f_S h f) (f_N h f).toNat = some (t, m_, F)) (hm : m_ ≤ 300) (ok : ∀ j : Nat, j < m_ → w_cd (h 81 1) (F j)) : ∀ (n_ : Nat) (g : HT) (i : Nat), m_ - i < n_ → i ≤ m_ → FMd g m_ (w_srt (h 81 1) m_ F i) → g 81 38 = t → FRf h g → G_ mX12_findForm (d + 3) 0 0 118 [some (.inr (some 81)), some (.inl f), some (.inl (i : Int)), none, none] [] τ g (Zi τ fun v h' => (w_run (h 81 1) (f_S h f) (f_N h f).toNat = none → v = 0) ∧ (∀ W, w_run (h 81 1) (f_S h f) (f_N h f).toNat = some W → v = 1 ∧ h' 81 38 = W.1 ∧ FMd h' W.2.1 (w_srt (h 81 1) W.2.1 W.2.2 W.2.1)) ∧ FRf h h') := by
  intro n_
  induction n_ with
  | zero => intro g i hm_; exact absurd hm_ (Nat.not_lt_zero _)
  | succ n_ ih =>
    intro g i hm_ hi fm ht fr
    have X1 : g 81 1 = h 81 1 := fr 81 1 (by decide) (by omega)
    refine G_iload_n (i := 2) dX12_findForm_118 rfl rfl ?_
    refine G_aload_n (i := 0) dX12_findForm_119 rfl rfl ?_
    refine G_getI (v := (m_ : Int)) fX12_123 rfl dX12_findForm_120 (o81 hT) (fm.1) ?_
    refine G_icmp_ge (tgt := 137) dX12_findForm_123 (by decide) (by omega) (by omega) (fun c_1 => ?_) (fun c_1 => ?_)
    · refine G_iconst dX12_findForm_137 ?_
      refine G_zretZ rfl (by decide) dX12_findForm_138 ?_
      obtain rfl : i = m_ := by omega
      exact ⟨fun z => (by rw [er] at z; cases z), fun W z => (by rw [er] at z; cases z; exact ⟨rfl, ht, fm⟩), fr⟩
    · refine G_aload_n (i := 0) dX12_findForm_126 rfl rfl ?_
      refine G_iload_n (i := 2) dX12_findForm_127 rfl rfl ?_
      refine G_cVv (as := [.inl (i : Int)]) qX12_276 (m_bringLeast d τ g hT m_ (w_srt (h 81 1) m_ F i) i (by omega) (by omega) (by omega) fm (by rw [X1]; exact w_srt_ok ok i (by omega))) rfl rfl (Nat.le_of_ble_eq_true rfl) (o81 hT) dX12_findForm_128 (fun g2 e2 => ?_)
      obtain ⟨fm2, fr2⟩ := e2
      rw [X1] at fm2
      refine G_iinc (ls' := [some (.inr (some 81)), some (.inl f), some (.inl ((i : Int) + 1)), none, none]) dX12_findForm_131 (by decide) rfl rfl ?_
      refine G_goto (tgt := 118) dX12_findForm_134 (by decide) ?_
      exact ih g2 (i + 1) (by omega) (by omega) fm2 (by rw [fr2 81 38 (by decide) (by decide)]; exact ht) (fr.tr fr2.f)

theorem m_find_1 (d : Nat) (τ : TT) (h : HT) (hT : TK τ) (f : Int) (hf : -1 ≤ f ∧ f ≤ 10) (hn : 3 ≤ h 81 1 ∧ h 81 1 ≤ 9) (sok : 0 ≤ f_N h f ∧ f_N h f ≤ 300 ∧ ∀ j : Nat, (j : Int) < f_N h f → f_okc (f_S h f j)) : ∀ (n_ : Nat) (g : HT) (k : Nat) (t : Int) (m_ : Nat) (F : Nat → Int), (f_N h f).toNat - k < n_ → (k : Int) ≤ f_N h f → FMd g m_ F → g 81 38 = t → FRf h g → w_run (h 81 1) (f_S h f) k = some (t, m_, F) → G_ mX12_findForm (d + 3) 0 0 12 [some (.inr (some 81)), some (.inl f), some (.inl (k : Int)), none, none] [] τ g (Zi τ fun v h' => (w_run (h 81 1) (f_S h f) (f_N h f).toNat = none → v = 0) ∧ (∀ W, w_run (h 81 1) (f_S h f) (f_N h f).toNat = some W → v = 1 ∧ h' 81 38 = W.1 ∧ FMd h' W.2.1 (w_srt (h 81 1) W.2.1 W.2.2 W.2.1)) ∧ FRf h h') := by
  intro n_
  induction n_ with
  | zero => intro g k t m_ F hm_; exact absurd hm_ (Nat.not_lt_zero _)
  | succ n_ ih =>
    intro g k t m_ F hm_ hk fm ht fr er
    have X1 : g 81 1 = h 81 1 := fr 81 1 (by decide) (by omega)
    have wok0 := w_run_ok (show 1 ≤ h 81 1 ∧ h 81 1 ≤ 9 by omega) k (fun j hj => sok.2.2 j (by omega)) _ er
    have wt1 := wok0.1
    have wt2 := wok0.2.1
    have wt3 := wok0.2.2.1
    replace wt1 : -(k : Int) ≤ t := wt1
    replace wt2 : t ≤ (k : Int) := wt2
    replace wt3 : m_ ≤ k := wt3
    refine G_iload_n (i := 2) dX12_findForm_12 rfl rfl ?_
    refine G_aload_n (i := 0) dX12_findForm_13 rfl rfl ?_
    refine G_iload_n (i := 1) dX12_findForm_14 rfl rfl ?_
    refine G_cVq (as := [.inl f]) qX12_267 (f_N_c fr.k f ▸ m_stepsOf (d + 2) τ g hT f hf) rfl rfl (Nat.le_of_ble_eq_true rfl) (o81 hT) dX12_findForm_15 ?_
    refine G_icmp_ge (tgt := 116) dX12_findForm_18 (by decide) (by omega) (by omega) (fun c_1 => ?_) (fun c_1 => ?_)
    · refine G_iconst dX12_findForm_116 ?_
      refine G_istore_n (i := 2) (ls' := [some (.inr (some 81)), some (.inl f), some (.inl 0), none, none]) dX12_findForm_117 rfl (by decide) rfl ?_
      obtain rfl : k = (f_N h f).toNat := by omega
      have wok := w_run_ok (show 1 ≤ h 81 1 ∧ h 81 1 ≤ 9 by omega) _ (fun j hj => sok.2.2 j (by omega)) _ er
      exact m_find_2 d τ h hT f hf hn sok t m_ F er (by have := wok.2.2.1; omega) wok.2.2.2 _ g 0 (Nat.lt_succ_self _) (Nat.zero_le _) fm ht fr
    · refine G_aload_n (i := 0) dX12_findForm_21 rfl rfl ?_
      refine G_iload_n (i := 1) dX12_findForm_22 rfl rfl ?_
      refine G_iload_n (i := 2) dX12_findForm_23 rfl rfl ?_
      refine G_cVq (as := [.inl f, .inl (k : Int)]) qX12_270 (f_S_c fr.k f ▸ m_stepOf (d + 2) τ g hT f k hf (by omega)) rfl rfl (Nat.le_of_ble_eq_true rfl) (o81 hT) dX12_findForm_24 ?_
      refine G_istore_n (i := 3) (ls' := [some (.inr (some 81)), some (.inl f), some (.inl (k : Int)), some (.inl (f_S h f k)), none]) dX12_findForm_27 rfl (by decide) rfl ?_
      have hs := sok.2.2 k (by omega)
      have hsr := f_okc_e hs
      have wok := w_run_ok (show 1 ≤ h 81 1 ∧ h 81 1 ≤ 9 by omega) k (fun j hj => sok.2.2 j (by omega)) _ er
      refine G_iload_n (i := 3) dX12_findForm_28 rfl rfl ?_
      refine G_bipush dX12_findForm_29 (by decide) ?_
      refine G_icmp_lt (tgt := 57) dX12_findForm_31 (by decide) (by omega) (by decide) (fun c_2 => ?_) (fun c_2 => ?_)
      · refine G_iload_n (i := 3) dX12_findForm_57 rfl rfl ?_
        refine G_bipush dX12_findForm_58 (by decide) ?_
        refine G_idiv dX12_findForm_60 (by omega) (by decide) ?_
        refine G_aload_n (i := 0) dX12_findForm_61 rfl rfl ?_
        refine G_getI (v := g 81 1) fX12_13 rfl dX12_findForm_62 (o81 hT) rfl ?_
        refine G_icmp_lt (tgt := 70) dX12_findForm_65 (by decide) (by omega) (by omega) (fun c_3 => ?_) (fun c_3 => ?_)
        · refine G_iload_n (i := 3) dX12_findForm_70 rfl rfl ?_
          refine G_bipush dX12_findForm_71 (by decide) ?_
          refine G_idiv dX12_findForm_73 (by omega) (by decide) ?_
          refine G_aload_n (i := 0) dX12_findForm_74 rfl rfl ?_
          refine G_getI (v := t) fX12_126 rfl dX12_findForm_75 (o81 hT) (ht) ?_
          refine G_isub dX12_findForm_78 ?_
          refine G_aload_n (i := 0) dX12_findForm_79 rfl rfl ?_
          refine G_getI (v := g 81 1) fX12_13 rfl dX12_findForm_80 (o81 hT) rfl ?_
          refine G_irem dX12_findForm_83 (by omega) (by omega) ?_
          have q0 := tm_r ((f_S h f k).tdiv 10 - t) (show 0 < g 81 1 by omega)
          refine G_aload_n (i := 0) dX12_findForm_84 rfl rfl ?_
          refine G_getI (v := g 81 1) fX12_13 rfl dX12_findForm_85 (o81 hT) rfl ?_
          refine G_iadd dX12_findForm_88 ?_
          refine G_aload_n (i := 0) dX12_findForm_89 rfl rfl ?_
          refine G_getI (v := g 81 1) fX12_13 rfl dX12_findForm_90 (o81 hT) rfl ?_
          refine G_irem dX12_findForm_93 (by omega) (by omega) ?_
          refine G_istore (ls' := [some (.inr (some 81)), some (.inl f), some (.inl (k : Int)), some (.inl (f_S h f k)), some (.inl ((((((f_S h f k).tdiv 10) - t).tmod (g 81 1)) + (g 81 1)).tmod (g 81 1)))]) dX12_findForm_94 (by decide) rfl ?_
          have ep : (((((f_S h f k).tdiv 10) - t).tmod (g 81 1)) + (g 81 1)).tmod (g 81 1) = ((f_S h f k).tdiv 10 - t) % h 81 1 := by rw [X1]; exact f_mod2 (by omega)
          rw [ep]
          have q1 := Int.emod_nonneg ((f_S h f k).tdiv 10 - t) (show h 81 1 ≠ 0 by omega)
          have q2 := Int.emod_lt_of_pos ((f_S h f k).tdiv 10 - t) (show 0 < h 81 1 by omega)
          have exx : 10 * (((f_S h f k).tdiv 10 - t) % h 81 1) + (f_S h f k).tmod 10 = w_x (h 81 1) t (f_S h f k) := rfl
          have hx : w_cd (g 81 1) (10 * (((f_S h f k).tdiv 10 - t) % h 81 1) + (f_S h f k).tmod 10) := by rw [X1]; exact w_x_ok (by omega) hs (by omega)
          refine G_aload_n (i := 0) dX12_findForm_96 rfl rfl ?_
          refine G_bipush dX12_findForm_97 (by decide) ?_
          refine G_iload dX12_findForm_99 rfl ?_
          refine G_imul dX12_findForm_101 ?_
          refine G_iload_n (i := 3) dX12_findForm_102 rfl rfl ?_
          refine G_bipush dX12_findForm_103 (by decide) ?_
          refine G_irem dX12_findForm_105 (by omega) (by decide) ?_
          refine G_iadd dX12_findForm_106 ?_
          refine G_cVv (as := [.inl ((10 * (((f_S h f k).tdiv 10 - t) % h 81 1)) + ((f_S h f k).tmod 10))]) qX12_273 (m_take d τ g hT m_ F ((10 * (((f_S h f k).tdiv 10 - t) % h 81 1)) + ((f_S h f k).tmod 10)) (by omega) (by omega) hx fm (by rw [X1]; exact wok.2.2.2)) rfl rfl (Nat.le_of_ble_eq_true rfl) (o81 hT) dX12_findForm_107 (fun g2 e2 => ?_)
          obtain ⟨fm2, fr2⟩ := e2
          rw [X1, exx] at fm2
          refine G_iinc (ls' := [some (.inr (some 81)), some (.inl f), some (.inl ((k : Int) + 1)), some (.inl (f_S h f k)), some (.inl (((f_S h f k).tdiv 10 - t) % h 81 1))]) dX12_findForm_110 (by decide) rfl rfl ?_
          refine G_goto (tgt := 12) dX12_findForm_113 (by decide) ?_
          refine G_lsub (ls' := [some (.inr (some 81)), some (.inl f), some (.inl ((k : Int) + 1)), none, none]) (LS_same (LS_same (LS_same (LS_none (LS_none LS_nil))))) ?_
          exact ih g2 (k + 1) t _ _ (by omega) (by omega) fm2 (by rw [fr2 81 38 (by decide) (by decide)]; exact ht) (fr.tr fr2.f) (by rw [w_run_s er]; unfold w_st; rw [if_neg (by omega), if_neg (by omega)])
        · refine G_iconst dX12_findForm_68 ?_
          refine G_zretZ rfl (by decide) dX12_findForm_69 ?_
          refine ⟨fun _ => rfl, fun W z => ?_, fr⟩
          have y := w_run_no (k := k + 1) (by rw [w_run_s er]; unfold w_st; rw [if_neg (by omega), if_pos (by omega)]) ((f_N h f).toNat - (k + 1))
          rw [show k + 1 + ((f_N h f).toNat - (k + 1)) = (f_N h f).toNat by omega, z] at y
          cases y
      · refine G_aload_n (i := 0) dX12_findForm_34 rfl rfl ?_
        refine G_dup dX12_findForm_35 ?_
        refine G_getI (v := t) fX12_126 rfl dX12_findForm_36 (o81 hT) (ht) ?_
        refine G_iload_n (i := 3) dX12_findForm_39 rfl rfl ?_
        refine G_bipush dX12_findForm_40 (by decide) ?_
        refine G_icmp_ne (tgt := 49) dX12_findForm_42 (by decide) (by omega) (by decide) (fun c_4 => ?_) (fun c_4 => ?_)
        · refine G_iconst dX12_findForm_49 ?_
          refine G_iadd dX12_findForm_50 ?_
          refine G_putI fX12_126 dX12_findForm_51 (o81 hT) ?_
          refine G_goto (tgt := 110) dX12_findForm_54 (by decide) ?_
          refine G_iinc (ls' := [some (.inr (some 81)), some (.inl f), some (.inl ((k : Int) + 1)), some (.inl (f_S h f k)), none]) dX12_findForm_110 (by decide) rfl rfl ?_
          refine G_goto (tgt := 12) dX12_findForm_113 (by decide) ?_
          refine G_lsub (ls' := [some (.inr (some 81)), some (.inl f), some (.inl ((k : Int) + 1)), none, none]) (LS_same (LS_same (LS_same (LS_none (LS_none LS_nil))))) ?_
          exact ih _ (k + 1) (t + (-1)) m_ F (by omega) (by omega) ⟨by rw [hs_ni (by decide)]; exact fm.1, fun j hj => by rw [hs_na (by decide)]; exact fm.2 j hj⟩ hs_eq (fr.tr (fun a i z1 z3 => by unfold hs_; rw [if_neg (fun z => (z3 z.1).2 z.2)])) (by rw [w_run_s er]; unfold w_st; rw [if_pos (by omega)]; show some (t + _, _) = _; rw [if_neg (by omega)])
        · refine G_iconst dX12_findForm_45 ?_
          refine G_goto (tgt := 50) dX12_findForm_46 (by decide) ?_
          refine G_iadd dX12_findForm_50 ?_
          refine G_putI fX12_126 dX12_findForm_51 (o81 hT) ?_
          refine G_goto (tgt := 110) dX12_findForm_54 (by decide) ?_
          refine G_iinc (ls' := [some (.inr (some 81)), some (.inl f), some (.inl ((k : Int) + 1)), some (.inl (f_S h f k)), none]) dX12_findForm_110 (by decide) rfl rfl ?_
          refine G_goto (tgt := 12) dX12_findForm_113 (by decide) ?_
          refine G_lsub (ls' := [some (.inr (some 81)), some (.inl f), some (.inl ((k : Int) + 1)), none, none]) (LS_same (LS_same (LS_same (LS_none (LS_none LS_nil))))) ?_
          exact ih _ (k + 1) (t + 1) m_ F (by omega) (by omega) ⟨by rw [hs_ni (by decide)]; exact fm.1, fun j hj => by rw [hs_na (by decide)]; exact fm.2 j hj⟩ hs_eq (fr.tr (fun a i z1 z3 => by unfold hs_; rw [if_neg (fun z => (z3 z.1).2 z.2)])) (by rw [w_run_s er]; unfold w_st; rw [if_pos (by omega)]; show some (t + _, _) = _; rw [if_pos (by omega)])

theorem m_findForm (d : Nat) (τ : TT) (h : HT) (hT : TK τ) (f : Int) (hf : -1 ≤ f ∧ f ≤ 10) (hn : 3 ≤ h 81 1 ∧ h 81 1 ≤ 9) (sok : 0 ≤ f_N h f ∧ f_N h f ≤ 300 ∧ ∀ j : Nat, (j : Int) < f_N h f → f_okc (f_S h f j)) : S_ mX12_findForm (d + 3) 0 0 [.inr (some 81), .inl f] τ h (Zi τ fun v h' => (w_run (h 81 1) (f_S h f) (f_N h f).toNat = none → v = 0) ∧ (∀ W, w_run (h 81 1) (f_S h f) (f_N h f).toNat = some W → v = 1 ∧ h' 81 38 = W.1 ∧ FMd h' W.2.1 (w_srt (h 81 1) W.2.1 W.2.2 W.2.1)) ∧ FRf h h') := by
  refine S_go (k := 3) (ls := [some (.inr (some 81)), some (.inl f), none, none, none]) (by decide) rfl (Nat.le_of_ble_eq_true rfl) rfl ?_
  refine G_aload_n (i := 0) dX12_findForm_0 rfl rfl ?_
  refine G_iconst dX12_findForm_1 ?_
  refine G_putI fX12_126 dX12_findForm_2 (o81 hT) ?_
  refine G_aload_n (i := 0) dX12_findForm_5 rfl rfl ?_
  refine G_iconst dX12_findForm_6 ?_
  refine G_putI fX12_123 dX12_findForm_7 (o81 hT) ?_
  refine G_iconst dX12_findForm_10 ?_
  refine G_istore_n (i := 2) (ls' := [some (.inr (some 81)), some (.inl f), some (.inl 0), none, none]) dX12_findForm_11 rfl (by decide) rfl ?_
  exact m_find_1 d τ h hT f hf hn sok _ (hs_ (hs_ h 81 38 0) 81 37 0) 0 0 0 (fun _ => 0) (Nat.lt_succ_self _) (by omega) ⟨hs_eq, fun j hj => absurd hj (Nat.not_lt_zero _)⟩ ((hs_ni (by decide)).trans hs_eq) (fun a i z1 z3 => by unfold hs_; rw [if_neg (fun z => (z3 z.1).1 z.2), if_neg (fun z => (z3 z.1).2 z.2)]) rfl

def f_fig (h : HT) (f : Int) : Prop := f = -1 ∨ (0 ≤ f ∧ f ≤ h 81 26 - 1)
def f_form (h : HT) (f w : Int) : Int := if ¬ (f = -1 ∨ (0 ≤ f ∧ f ≤ h 81 26 - 1)) ∨ w < -2 then -99 else if h 81 1 = 0 then -98 else match w_run (h 81 1) (f_S h f) (f_N h f).toNat with
  | none => -97
  | some W => if w = -2 then W.1 else if w = -1 then (W.2.1 : Int) else if w < (W.2.1 : Int) then w_srt (h 81 1) W.2.1 W.2.2 W.2.1 w.toNat else -99
theorem m_form (d : Nat) (τ : TT) (h : HT) (hT : TK τ) (f w : Int) (r_f : -2147483648 ≤ f ∧ f ≤ 2147483647) (r_w : -2147483648 ≤ w ∧ w ≤ 2147483647) (x : MI h) : S_ mX12_form (d + 4) 0 0 [.inr (some 81), .inl f, .inl w] τ h (Zi τ fun v h' => v = f_form h f w ∧ FRf h h') := by
  have hd1 := x.d1
  have hf10 := x.f_
  have hn9 := x.n_
  refine S_go (k := 0) (ls := [some (.inr (some 81)), some (.inl f), some (.inl w)]) (by decide) rfl (Nat.le_of_ble_eq_true rfl) rfl ?_
  refine G_iload_n (i := 1) dX12_form_0 rfl rfl ?_
  refine G_iconst dX12_form_1 ?_
  refine G_icmp_eq (tgt := 13) dX12_form_2 (by decide) (by omega) (by decide) (fun c_1 => ?_) (fun c_1 => ?_)
  · refine G_iload_n (i := 2) dX12_form_13 rfl rfl ?_
    refine G_bipush dX12_form_14 (by decide) ?_
    refine G_icmp_ge (tgt := 22) dX12_form_16 (by decide) (by omega) (by decide) (fun c_2 => ?_) (fun c_2 => ?_)
    · refine G_aload_n (i := 0) dX12_form_22 rfl rfl ?_
      refine G_getI (v := h 81 1) fX12_13 rfl dX12_form_23 (o81 hT) rfl ?_
      refine G_if_ne (tgt := 32) dX12_form_26 (by decide) (by omega) (fun c_3 => ?_) (fun c_3 => ?_)
      · refine G_aload_n (i := 0) dX12_form_32 rfl rfl ?_
        refine G_iload_n (i := 1) dX12_form_33 rfl rfl ?_
        refine G_cVi (as := [.inl f]) qX12_282 (m_findForm d τ h hT f (by omega) (by omega) (f_S_ok x (by omega))) rfl rfl (Nat.le_of_ble_eq_true rfl) (o81 hT) dX12_form_34 (fun v1 g e1 => ?_)
        obtain ⟨n1, n2, fr⟩ := e1
        have hv1 : v1 = 0 ∨ v1 = 1 := by cases hq : w_run (h 81 1) (f_S h f) (f_N h f).toNat with | none => exact Or.inl (n1 hq) | some W => exact Or.inr (n2 W hq).1
        refine G_if_ne (tgt := 43) dX12_form_37 (by decide) (by omega) (fun c_4 => ?_) (fun c_4 => ?_)
        · obtain ⟨W, eW⟩ : ∃ W, w_run (h 81 1) (f_S h f) (f_N h f).toNat = some W := by cases hq : w_run (h 81 1) (f_S h f) (f_N h f).toNat with | none => (have := n1 hq; omega) | some W => exact ⟨W, rfl⟩
          obtain ⟨_, e38, fm⟩ := n2 W eW
          have wok := w_run_ok (show 1 ≤ h 81 1 ∧ h 81 1 ≤ 9 by omega) _ (fun j hj => (f_S_ok x (by omega)).2.2 j (by omega)) _ eW
          have sok := f_S_ok x (f := f) (by omega)
          have wk1 := wok.1
          have wk2 := wok.2.1
          have wk3 := wok.2.2.1
          refine G_iload_n (i := 2) dX12_form_43 rfl rfl ?_
          refine G_bipush dX12_form_44 (by decide) ?_
          refine G_icmp_ne (tgt := 56) dX12_form_46 (by decide) (by omega) (by decide) (fun c_5 => ?_) (fun c_5 => ?_)
          · refine G_iload_n (i := 2) dX12_form_56 rfl rfl ?_
            refine G_iconst dX12_form_57 ?_
            refine G_icmp_ne (tgt := 68) dX12_form_58 (by decide) (by omega) (by decide) (fun c_6 => ?_) (fun c_6 => ?_)
            · refine G_iload_n (i := 2) dX12_form_68 rfl rfl ?_
              refine G_aload_n (i := 0) dX12_form_69 rfl rfl ?_
              refine G_getI (v := (W.2.1 : Int)) fX12_123 rfl dX12_form_70 (o81 hT) (fm.1) ?_
              refine G_icmp_ge (tgt := 85) dX12_form_73 (by decide) (by omega) (by omega) (fun c_7 => ?_) (fun c_7 => ?_)
              · refine G_bipush dX12_form_85 (by decide) ?_
                refine G_iretZ rfl dX12_form_87 ?_
                refine ⟨?_, fr⟩
                unfold f_form; rw [if_neg (by omega), if_neg (by omega), eW]
                show _ = (if w = -2 then W.1 else if w = -1 then (W.2.1 : Int) else if w < (W.2.1 : Int) then w_srt (h 81 1) W.2.1 W.2.2 W.2.1 w.toNat else -99)
                (repeat (first | rw [if_pos (by omega)] | rw [if_neg (by omega)]))
              · refine G_aload_n (i := 0) dX12_form_76 rfl rfl ?_
                refine G_getR fX12_117 rfl dX12_form_77 (o81 hT) (r81_35 hT) ?_
                refine G_iload_n (i := 2) dX12_form_80 rfl rfl ?_
                refine G_iald (v := w_srt (h 81 1) W.2.1 W.2.2 W.2.1 ((w).toNat)) dX12_form_81 (o107 hT) (by omega) (fm.2 ((w).toNat) (by omega)) ?_
                refine G_goto (tgt := 87) dX12_form_82 (by decide) ?_
                refine G_iretZ rfl dX12_form_87 ?_
                refine ⟨?_, fr⟩
                unfold f_form; rw [if_neg (by omega), if_neg (by omega), eW]
                show _ = (if w = -2 then W.1 else if w = -1 then (W.2.1 : Int) else if w < (W.2.1 : Int) then w_srt (h 81 1) W.2.1 W.2.2 W.2.1 w.toNat else -99)
                (repeat (first | rw [if_pos (by omega)] | rw [if_neg (by omega)]))
            · refine G_aload_n (i := 0) dX12_form_61 rfl rfl ?_
              refine G_getI (v := (W.2.1 : Int)) fX12_123 rfl dX12_form_62 (o81 hT) (fm.1) ?_
              refine G_goto (tgt := 87) dX12_form_65 (by decide) ?_
              refine G_iretZ rfl dX12_form_87 ?_
              refine ⟨?_, fr⟩
              unfold f_form; rw [if_neg (by omega), if_neg (by omega), eW]
              show _ = (if w = -2 then W.1 else if w = -1 then (W.2.1 : Int) else if w < (W.2.1 : Int) then w_srt (h 81 1) W.2.1 W.2.2 W.2.1 w.toNat else -99)
              (repeat (first | rw [if_pos (by omega)] | rw [if_neg (by omega)]))
          · refine G_aload_n (i := 0) dX12_form_49 rfl rfl ?_
            refine G_getI (v := W.1) fX12_126 rfl dX12_form_50 (o81 hT) (e38) ?_
            refine G_goto (tgt := 87) dX12_form_53 (by decide) ?_
            refine G_iretZ rfl dX12_form_87 ?_
            refine ⟨?_, fr⟩
            unfold f_form; rw [if_neg (by omega), if_neg (by omega), eW]
            show _ = (if w = -2 then W.1 else if w = -1 then (W.2.1 : Int) else if w < (W.2.1 : Int) then w_srt (h 81 1) W.2.1 W.2.2 W.2.1 w.toNat else -99)
            (repeat (first | rw [if_pos (by omega)] | rw [if_neg (by omega)]))
        · refine G_bipush dX12_form_40 (by decide) ?_
          refine G_iretZ rfl dX12_form_42 ?_
          refine ⟨?_, fr⟩
          unfold f_form; rw [if_neg (by omega), if_neg (by omega)]
          have hq : w_run (h 81 1) (f_S h f) (f_N h f).toNat = none := by cases hq : w_run (h 81 1) (f_S h f) (f_N h f).toNat with | none => rfl | some W => (have := (n2 W hq).1; omega)
          rw [hq]
      · refine G_bipush dX12_form_29 (by decide) ?_
        refine G_iretZ rfl dX12_form_31 ?_
        exact ⟨by unfold f_form; (repeat (first | rw [if_pos (by omega)] | rw [if_neg (by omega)])), FRf.rf⟩
    · refine G_bipush dX12_form_19 (by decide) ?_
      refine G_iretZ rfl dX12_form_21 ?_
      exact ⟨by unfold f_form; (repeat (first | rw [if_pos (by omega)] | rw [if_neg (by omega)])), FRf.rf⟩
  · refine G_aload_n (i := 0) dX12_form_5 rfl rfl ?_
    refine G_iload_n (i := 1) dX12_form_6 rfl rfl ?_
    refine G_cVq (as := [.inl f]) qX12_244 (m_isFigure (d + 2) τ h hT f (by omega) x.f_) rfl rfl (Nat.le_of_ble_eq_true rfl) (o81 hT) dX12_form_7 ?_
    refine G_ifb_eq (tgt := 19) dX12_form_10 (by decide) (fun c_8 => ?_) (fun c_8 => ?_)
    · refine G_bipush dX12_form_19 (by decide) ?_
      refine G_iretZ rfl dX12_form_21 ?_
      exact ⟨by unfold f_form; (repeat (first | rw [if_pos (by omega)] | rw [if_neg (by omega)])), FRf.rf⟩
    · refine G_iload_n (i := 2) dX12_form_13 rfl rfl ?_
      refine G_bipush dX12_form_14 (by decide) ?_
      refine G_icmp_ge (tgt := 22) dX12_form_16 (by decide) (by omega) (by decide) (fun c_9 => ?_) (fun c_9 => ?_)
      · refine G_aload_n (i := 0) dX12_form_22 rfl rfl ?_
        refine G_getI (v := h 81 1) fX12_13 rfl dX12_form_23 (o81 hT) rfl ?_
        refine G_if_ne (tgt := 32) dX12_form_26 (by decide) (by omega) (fun c_10 => ?_) (fun c_10 => ?_)
        · refine G_aload_n (i := 0) dX12_form_32 rfl rfl ?_
          refine G_iload_n (i := 1) dX12_form_33 rfl rfl ?_
          refine G_cVi (as := [.inl f]) qX12_282 (m_findForm d τ h hT f (by omega) (by omega) (f_S_ok x (by omega))) rfl rfl (Nat.le_of_ble_eq_true rfl) (o81 hT) dX12_form_34 (fun v1 g e1 => ?_)
          obtain ⟨n1, n2, fr⟩ := e1
          have hv1 : v1 = 0 ∨ v1 = 1 := by cases hq : w_run (h 81 1) (f_S h f) (f_N h f).toNat with | none => exact Or.inl (n1 hq) | some W => exact Or.inr (n2 W hq).1
          refine G_if_ne (tgt := 43) dX12_form_37 (by decide) (by omega) (fun c_11 => ?_) (fun c_11 => ?_)
          · obtain ⟨W, eW⟩ : ∃ W, w_run (h 81 1) (f_S h f) (f_N h f).toNat = some W := by cases hq : w_run (h 81 1) (f_S h f) (f_N h f).toNat with | none => (have := n1 hq; omega) | some W => exact ⟨W, rfl⟩
            obtain ⟨_, e38, fm⟩ := n2 W eW
            have wok := w_run_ok (show 1 ≤ h 81 1 ∧ h 81 1 ≤ 9 by omega) _ (fun j hj => (f_S_ok x (by omega)).2.2 j (by omega)) _ eW
            have sok := f_S_ok x (f := f) (by omega)
            have wk1 := wok.1
            have wk2 := wok.2.1
            have wk3 := wok.2.2.1
            refine G_iload_n (i := 2) dX12_form_43 rfl rfl ?_
            refine G_bipush dX12_form_44 (by decide) ?_
            refine G_icmp_ne (tgt := 56) dX12_form_46 (by decide) (by omega) (by decide) (fun c_12 => ?_) (fun c_12 => ?_)
            · refine G_iload_n (i := 2) dX12_form_56 rfl rfl ?_
              refine G_iconst dX12_form_57 ?_
              refine G_icmp_ne (tgt := 68) dX12_form_58 (by decide) (by omega) (by decide) (fun c_13 => ?_) (fun c_13 => ?_)
              · refine G_iload_n (i := 2) dX12_form_68 rfl rfl ?_
                refine G_aload_n (i := 0) dX12_form_69 rfl rfl ?_
                refine G_getI (v := (W.2.1 : Int)) fX12_123 rfl dX12_form_70 (o81 hT) (fm.1) ?_
                refine G_icmp_ge (tgt := 85) dX12_form_73 (by decide) (by omega) (by omega) (fun c_14 => ?_) (fun c_14 => ?_)
                · refine G_bipush dX12_form_85 (by decide) ?_
                  refine G_iretZ rfl dX12_form_87 ?_
                  refine ⟨?_, fr⟩
                  unfold f_form; rw [if_neg (by omega), if_neg (by omega), eW]
                  show _ = (if w = -2 then W.1 else if w = -1 then (W.2.1 : Int) else if w < (W.2.1 : Int) then w_srt (h 81 1) W.2.1 W.2.2 W.2.1 w.toNat else -99)
                  (repeat (first | rw [if_pos (by omega)] | rw [if_neg (by omega)]))
                · refine G_aload_n (i := 0) dX12_form_76 rfl rfl ?_
                  refine G_getR fX12_117 rfl dX12_form_77 (o81 hT) (r81_35 hT) ?_
                  refine G_iload_n (i := 2) dX12_form_80 rfl rfl ?_
                  refine G_iald (v := w_srt (h 81 1) W.2.1 W.2.2 W.2.1 ((w).toNat)) dX12_form_81 (o107 hT) (by omega) (fm.2 ((w).toNat) (by omega)) ?_
                  refine G_goto (tgt := 87) dX12_form_82 (by decide) ?_
                  refine G_iretZ rfl dX12_form_87 ?_
                  refine ⟨?_, fr⟩
                  unfold f_form; rw [if_neg (by omega), if_neg (by omega), eW]
                  show _ = (if w = -2 then W.1 else if w = -1 then (W.2.1 : Int) else if w < (W.2.1 : Int) then w_srt (h 81 1) W.2.1 W.2.2 W.2.1 w.toNat else -99)
                  (repeat (first | rw [if_pos (by omega)] | rw [if_neg (by omega)]))
              · refine G_aload_n (i := 0) dX12_form_61 rfl rfl ?_
                refine G_getI (v := (W.2.1 : Int)) fX12_123 rfl dX12_form_62 (o81 hT) (fm.1) ?_
                refine G_goto (tgt := 87) dX12_form_65 (by decide) ?_
                refine G_iretZ rfl dX12_form_87 ?_
                refine ⟨?_, fr⟩
                unfold f_form; rw [if_neg (by omega), if_neg (by omega), eW]
                show _ = (if w = -2 then W.1 else if w = -1 then (W.2.1 : Int) else if w < (W.2.1 : Int) then w_srt (h 81 1) W.2.1 W.2.2 W.2.1 w.toNat else -99)
                (repeat (first | rw [if_pos (by omega)] | rw [if_neg (by omega)]))
            · refine G_aload_n (i := 0) dX12_form_49 rfl rfl ?_
              refine G_getI (v := W.1) fX12_126 rfl dX12_form_50 (o81 hT) (e38) ?_
              refine G_goto (tgt := 87) dX12_form_53 (by decide) ?_
              refine G_iretZ rfl dX12_form_87 ?_
              refine ⟨?_, fr⟩
              unfold f_form; rw [if_neg (by omega), if_neg (by omega), eW]
              show _ = (if w = -2 then W.1 else if w = -1 then (W.2.1 : Int) else if w < (W.2.1 : Int) then w_srt (h 81 1) W.2.1 W.2.2 W.2.1 w.toNat else -99)
              (repeat (first | rw [if_pos (by omega)] | rw [if_neg (by omega)]))
          · refine G_bipush dX12_form_40 (by decide) ?_
            refine G_iretZ rfl dX12_form_42 ?_
            refine ⟨?_, fr⟩
            unfold f_form; rw [if_neg (by omega), if_neg (by omega)]
            have hq : w_run (h 81 1) (f_S h f) (f_N h f).toNat = none := by cases hq : w_run (h 81 1) (f_S h f) (f_N h f).toNat with | none => rfl | some W => (have := (n2 W hq).1; omega)
            rw [hq]
        · refine G_bipush dX12_form_29 (by decide) ?_
          refine G_iretZ rfl dX12_form_31 ?_
          exact ⟨by unfold f_form; (repeat (first | rw [if_pos (by omega)] | rw [if_neg (by omega)])), FRf.rf⟩
      · refine G_bipush dX12_form_19 (by decide) ?_
        refine G_iretZ rfl dX12_form_21 ?_
        exact ⟨by unfold f_form; (repeat (first | rw [if_pos (by omega)] | rw [if_neg (by omega)])), FRf.rf⟩

def f_akin (h : HT) (a b : Int) : Int := if ¬ (a = -1 ∨ (0 ≤ a ∧ a ≤ h 81 26 - 1)) ∨ ¬ (b = -1 ∨ (0 ≤ b ∧ b ≤ h 81 26 - 1)) then -1 else if h 81 1 = 0 then -3 else match w_run (h 81 1) (f_S h a) (f_N h a).toNat with
  | none => -3
  | some A => match w_run (h 81 1) (f_S h b) (f_N h b).toNat with
    | none => -3
    | some B => if (A.1 = B.1 ∧ A.2.1 = B.2.1) ∧ ∀ j : Nat, j < A.2.1 → w_srt (h 81 1) B.2.1 B.2.2 B.2.1 j = w_srt (h 81 1) A.2.1 A.2.2 A.2.1 j then 1 else 0
theorem bNotE {P Q : Prop} [Decidable P] [Decidable Q] (e : Q ↔ ¬ P) : (if P then (0 : Int) else 1) = if Q then 1 else 0 := by
  by_cases a : P <;> simp [a, e]
theorem w_ak_s {P : Prop} {f g : Nat → Int} {i : Nat} (x : P ∧ ∀ j : Nat, j < i → f j = g j) : (f i = g i) ↔ (P ∧ ∀ j : Nat, j < i + 1 → f j = g j) := by
  constructor
  · intro e
    refine ⟨x.1, fun j hj => ?_⟩
    rcases Nat.lt_succ_iff_lt_or_eq.mp hj with z | z
    · exact x.2 j z
    · subst z; exact e
  · intro y; exact y.2 i (by omega)
theorem m_akin_C (d : Nat) (τ : TT) (h : HT) (hT : TK τ) (g : HT) (a b t : Int) (A B : WT) (hm : A.2.1 ≤ 300) (hAB : A.2.1 = B.2.1 ∨ A.2.1 ≠ B.2.1) (fmB : FMd g B.2.1 (w_srt (h 81 1) B.2.1 B.2.2 B.2.1)) (hA : ∀ j : Nat, j < A.2.1 → g 108 j = w_srt (h 81 1) A.2.1 A.2.2 A.2.1 j) (okA : ∀ j : Nat, j < A.2.1 → w_cd (h 81 1) (w_srt (h 81 1) A.2.1 A.2.2 A.2.1 j)) (okB : ∀ j : Nat, j < B.2.1 → w_cd (h 81 1) (w_srt (h 81 1) B.2.1 B.2.2 B.2.1 j)) (fr : FRk h g) (eK : f_akin h a b = if ((A.1 = B.1 ∧ A.2.1 = B.2.1) ∧ ∀ j : Nat, j < A.2.1 → w_srt (h 81 1) B.2.1 B.2.2 B.2.1 j = w_srt (h 81 1) A.2.1 A.2.2 A.2.1 j) then 1 else 0) : ∀ (n_ : Nat) (i : Nat), A.2.1 - i < n_ → i ≤ A.2.1 → G_ mX12_akin (d + 4) 0 0 125 [some (.inr (some 81)), some (.inl a), some (.inl b), some (.inl t), some (.inl (A.2.1 : Int)), some (.inl (if ((A.1 = B.1 ∧ A.2.1 = B.2.1) ∧ ∀ j : Nat, j < i → w_srt (h 81 1) B.2.1 B.2.2 B.2.1 j = w_srt (h 81 1) A.2.1 A.2.2 A.2.1 j) then 1 else 0)), some (.inl (i : Int))] [] τ g (Zi τ fun v h' => v = f_akin h a b ∧ FRk h h') := by
  intro n_
  induction n_ with
  | zero => intro i hm_; exact absurd hm_ (Nat.not_lt_zero _)
  | succ n_ ih =>
    intro i hm_ hi
    refine G_iload dX12_akin_125 rfl ?_
    refine G_iload dX12_akin_127 rfl ?_
    refine G_icmp_ge (tgt := 167) dX12_akin_129 (by decide) (by omega) (by omega) (fun c_1 => ?_) (fun c_1 => ?_)
    · refine G_iload dX12_akin_167 rfl ?_
      refine G_ifb_eq (tgt := 176) dX12_akin_169 (by decide) (fun c_2 => ?_) (fun c_2 => ?_)
      · refine G_iconst dX12_akin_176 ?_
        refine G_iretZ rfl dX12_akin_177 ?_
        refine ⟨?_, fr⟩
        rw [eK]
        obtain rfl | hh : i = A.2.1 ∨ i < A.2.1 := by omega
        · first | rw [if_pos (by assumption)] | rw [if_neg (by assumption)]
        · first | omega | (rw [if_neg]; intro z; (first | contradiction | (rename_i w1; exact absurd ⟨z.1, fun j hj => z.2 j (by omega)⟩ w1) | (rename_i w1 w2; exact absurd ⟨z.1, fun j hj => z.2 j (by omega)⟩ w1) | (rename_i w1 w2 w3; exact absurd ⟨z.1, fun j hj => z.2 j (by omega)⟩ w1)))
      · refine G_iconst dX12_akin_172 ?_
        refine G_goto (tgt := 177) dX12_akin_173 (by decide) ?_
        refine G_iretZ rfl dX12_akin_177 ?_
        refine ⟨?_, fr⟩
        rw [eK]
        obtain rfl | hh : i = A.2.1 ∨ i < A.2.1 := by omega
        · first | rw [if_pos (by assumption)] | rw [if_neg (by assumption)]
        · first | omega | (rw [if_neg]; intro z; (first | contradiction | (rename_i w1; exact absurd ⟨z.1, fun j hj => z.2 j (by omega)⟩ w1) | (rename_i w1 w2; exact absurd ⟨z.1, fun j hj => z.2 j (by omega)⟩ w1) | (rename_i w1 w2 w3; exact absurd ⟨z.1, fun j hj => z.2 j (by omega)⟩ w1)))
    · refine G_iload dX12_akin_132 rfl ?_
      refine G_ifb_eq (tgt := 167) dX12_akin_134 (by decide) (fun c_3 => ?_) (fun c_3 => ?_)
      · refine G_iload dX12_akin_167 rfl ?_
        refine G_ifb_eq (tgt := 176) dX12_akin_169 (by decide) (fun _ => ?_) (fun q => absurd q c_3)
        refine G_iconst dX12_akin_176 ?_
        refine G_iretZ rfl dX12_akin_177 ?_
        refine ⟨?_, fr⟩
        rw [eK]
        obtain rfl | hh : i = A.2.1 ∨ i < A.2.1 := by omega
        · first | rw [if_pos (by assumption)] | rw [if_neg (by assumption)]
        · first | omega | (rw [if_neg]; intro z; (first | contradiction | (rename_i w1; exact absurd ⟨z.1, fun j hj => z.2 j (by omega)⟩ w1) | (rename_i w1 w2; exact absurd ⟨z.1, fun j hj => z.2 j (by omega)⟩ w1) | (rename_i w1 w2 w3; exact absurd ⟨z.1, fun j hj => z.2 j (by omega)⟩ w1)))
      · refine G_aload_n (i := 0) dX12_akin_137 rfl rfl ?_
        refine G_getR fX12_117 rfl dX12_akin_138 (o81 hT) (r81_35 hT) ?_
        refine G_iload dX12_akin_141 rfl ?_
        refine G_iald (v := w_srt (h 81 1) B.2.1 B.2.2 B.2.1 i) dX12_akin_143 (o107 hT) (by omega) (fmB.2 i (by omega)) ?_
        have r1 := w_cd_r (okB i (by omega))
        refine G_aload_n (i := 0) dX12_akin_144 rfl rfl ?_
        refine G_getR fX12_120 rfl dX12_akin_145 (o81 hT) (r81_36 hT) ?_
        refine G_iload dX12_akin_148 rfl ?_
        refine G_iald (v := w_srt (h 81 1) A.2.1 A.2.2 A.2.1 i) dX12_akin_150 (o108 hT) (by omega) (hA i (by omega)) ?_
        have r2 := w_cd_r (okA i (by omega))
        suffices K_6 : ∀ x_5 : Int, x_5 = (if (w_srt (h 81 1) B.2.1 B.2.2 B.2.1 i) = (w_srt (h 81 1) A.2.1 A.2.2 A.2.1 i) then 1 else 0) → G_ mX12_akin (d + 4) 0 0 159 [some (.inr (some 81)), some (.inl a), some (.inl b), some (.inl t), some (.inl (A.2.1 : Int)), some (.inl (if ((A.1 = B.1 ∧ A.2.1 = B.2.1) ∧ ∀ j : Nat, j < i → w_srt (h 81 1) B.2.1 B.2.2 B.2.1 j = w_srt (h 81 1) A.2.1 A.2.2 A.2.1 j) then 1 else 0)), some (.inl (i : Int))] [.inl x_5] τ g (Zi τ fun v h' => v = f_akin h a b ∧ FRk h h') by
          refine G_icmp_ne (tgt := 158) dX12_akin_151 (by decide) (by omega) (by omega) (fun c_4 => ?_) (fun c_4 => ?_)
          · refine G_iconst dX12_akin_158 ?_
            exact K_6 _ (if_neg c_4).symm
          · refine G_iconst dX12_akin_154 ?_
            refine G_goto (tgt := 159) dX12_akin_155 (by decide) ?_
            exact K_6 _ (if_pos c_4).symm
        intro x_5 ex_5
        refine G_istore (ls' := [some (.inr (some 81)), some (.inl a), some (.inl b), some (.inl t), some (.inl (A.2.1 : Int)), some (.inl x_5), some (.inl (i : Int))]) dX12_akin_159 (by decide) rfl ?_
        refine G_iinc (ls' := [some (.inr (some 81)), some (.inl a), some (.inl b), some (.inl t), some (.inl (A.2.1 : Int)), some (.inl x_5), some (.inl ((i : Int) + 1))]) dX12_akin_161 (by decide) rfl rfl ?_
        refine G_goto (tgt := 125) dX12_akin_164 (by decide) ?_
        rw [show x_5 = (if ((A.1 = B.1 ∧ A.2.1 = B.2.1) ∧ ∀ j : Nat, j < i + 1 → w_srt (h 81 1) B.2.1 B.2.2 B.2.1 j = w_srt (h 81 1) A.2.1 A.2.2 A.2.1 j) then 1 else 0) from by rw [ex_5]; first | exact bCg (w_ak_s (by assumption)) | (rw [if_pos (by assumption)]; exact bCg (w_ak_s (by assumption)))]
        exact ih (i + 1) (by omega) (by omega)

theorem m_akin_B (d : Nat) (τ : TT) (h : HT) (hT : TK τ) (Z : ZT) (a b t : Int) (m_ : Nat) (hm : m_ ≤ 300) (K : G_ mX12_akin (d + 4) 0 0 87 [some (.inr (some 81)), some (.inl a), some (.inl b), some (.inl t), some (.inl (m_ : Int)), none, none] [] τ (hf_ h 108 0 m_ (h 107)) (Z)) : ∀ (n_ : Nat) (i : Nat), m_ - i < n_ → i ≤ m_ → G_ mX12_akin (d + 4) 0 0 60 [some (.inr (some 81)), some (.inl a), some (.inl b), some (.inl t), some (.inl (m_ : Int)), some (.inl (i : Int)), none] [] τ (hf_ h 108 0 i (h 107)) (Z) := by
  intro n_
  induction n_ with
  | zero => intro i hm_; exact absurd hm_ (Nat.not_lt_zero _)
  | succ n_ ih =>
    intro i hm_ hi
    refine G_iload dX12_akin_60 rfl ?_
    refine G_iload dX12_akin_62 rfl ?_
    refine G_icmp_ge (tgt := 87) dX12_akin_64 (by decide) (by omega) (by omega) (fun c_1 => ?_) (fun c_1 => ?_)
    · refine G_lsub (ls' := [some (.inr (some 81)), some (.inl a), some (.inl b), some (.inl t), some (.inl (m_ : Int)), none, none]) (LS_same (LS_same (LS_same (LS_same (LS_same (LS_none (LS_none LS_nil))))))) ?_
      obtain rfl : i = m_ := by omega
      exact K
    · refine G_aload_n (i := 0) dX12_akin_67 rfl rfl ?_
      refine G_getR fX12_120 rfl dX12_akin_68 (o81 hT) (r81_36 hT) ?_
      refine G_iload dX12_akin_71 rfl ?_
      refine G_aload_n (i := 0) dX12_akin_73 rfl rfl ?_
      refine G_getR fX12_117 rfl dX12_akin_74 (o81 hT) (r81_35 hT) ?_
      refine G_iload dX12_akin_77 rfl ?_
      refine G_iald (v := h 107 i) dX12_akin_79 (o107 hT) (by omega) (hf_na (by decide)) ?_
      refine G_iastk i dX12_akin_80 (o108 hT) (by omega) rfl ?_
      refine G_iinc (ls' := [some (.inr (some 81)), some (.inl a), some (.inl b), some (.inl t), some (.inl (m_ : Int)), some (.inl ((i : Int) + 1)), none]) dX12_akin_81 (by decide) rfl rfl ?_
      refine G_goto (tgt := 60) dX12_akin_84 (by decide) ?_
      rw [hf_snoc (Nat.zero_le _) rfl]
      exact ih (i + 1) (by omega) (by omega)

theorem bAndI {P Q : Prop} [Decidable P] [Decidable Q] : (if P then (if Q then (1 : Int) else 0) else 0) = if P ∧ Q then 1 else 0 := by
  by_cases a : P <;> by_cases b : Q <;> simp [a, b]
theorem m_akin (d : Nat) (τ : TT) (h : HT) (hT : TK τ) (a b : Int) (r_a : -2147483648 ≤ a ∧ a ≤ 2147483647) (r_b : -2147483648 ≤ b ∧ b ≤ 2147483647) (x : MI h) : S_ mX12_akin (d + 4) 0 0 [.inr (some 81), .inl a, .inl b] τ h (Zi τ fun v h' => v = f_akin h a b ∧ FRk h h') := by
  have hd1 := x.d1
  have hf10 := x.f_
  have hn9 := x.n_
  refine S_go (k := 4) (ls := [some (.inr (some 81)), some (.inl a), some (.inl b), none, none, none, none]) (by decide) rfl (Nat.le_of_ble_eq_true rfl) rfl ?_
  refine G_iload_n (i := 1) dX12_akin_0 rfl rfl ?_
  refine G_iconst dX12_akin_1 ?_
  refine G_icmp_eq (tgt := 13) dX12_akin_2 (by decide) (by omega) (by decide) (fun c_1 => ?_) (fun c_1 => ?_)
  · refine G_iload_n (i := 2) dX12_akin_13 rfl rfl ?_
    refine G_iconst dX12_akin_14 ?_
    refine G_icmp_eq (tgt := 28) dX12_akin_15 (by decide) (by omega) (by decide) (fun c_2 => ?_) (fun c_2 => ?_)
    · refine G_aload_n (i := 0) dX12_akin_28 rfl rfl ?_
      refine G_getI (v := h 81 1) fX12_13 rfl dX12_akin_29 (o81 hT) rfl ?_
      refine G_if_eq (tgt := 43) dX12_akin_32 (by decide) (by omega) (fun c_3 => ?_) (fun c_3 => ?_)
      · refine G_bipush dX12_akin_43 (by decide) ?_
        refine G_iretZ rfl dX12_akin_45 ?_
        exact ⟨by unfold f_akin; (repeat (first | rw [if_pos (by omega)] | rw [if_neg (by omega)])), FRk.rf⟩
      · refine G_aload_n (i := 0) dX12_akin_35 rfl rfl ?_
        refine G_iload_n (i := 1) dX12_akin_36 rfl rfl ?_
        refine G_cVi (as := [.inl a]) qX12_282 (m_findForm d τ h hT a (by omega) (by omega) (f_S_ok x (by omega))) rfl rfl (Nat.le_of_ble_eq_true rfl) (o81 hT) dX12_akin_37 (fun v1 g e1 => ?_)
        obtain ⟨n1, n2, fr⟩ := e1
        have hv1 : v1 = 0 ∨ v1 = 1 := by cases hq : w_run (h 81 1) (f_S h a) (f_N h a).toNat with | none => exact Or.inl (n1 hq) | some W => exact Or.inr (n2 W hq).1
        refine G_if_ne (tgt := 46) dX12_akin_40 (by decide) (by omega) (fun c_4 => ?_) (fun c_4 => ?_)
        · obtain ⟨A, eA⟩ : ∃ W, w_run (h 81 1) (f_S h a) (f_N h a).toNat = some W := by cases hq : w_run (h 81 1) (f_S h a) (f_N h a).toNat with | none => (have := n1 hq; omega) | some W => exact ⟨W, rfl⟩
          obtain ⟨_, e38A, fmA⟩ := n2 A eA
          have sokA := f_S_ok x (f := a) (by omega)
          have wokA := w_run_ok (show 1 ≤ h 81 1 ∧ h 81 1 ≤ 9 by omega) _ (fun j hj => sokA.2.2 j (by omega)) _ eA
          have k1A := wokA.1
          have k2A := wokA.2.1
          have k3A := wokA.2.2.1
          refine G_aload_n (i := 0) dX12_akin_46 rfl rfl ?_
          refine G_getI (v := A.1) fX12_126 rfl dX12_akin_47 (o81 hT) (e38A) ?_
          refine G_istore_n (i := 3) (ls' := [some (.inr (some 81)), some (.inl a), some (.inl b), some (.inl A.1), none, none, none]) dX12_akin_50 rfl (by decide) rfl ?_
          refine G_aload_n (i := 0) dX12_akin_51 rfl rfl ?_
          refine G_getI (v := (A.2.1 : Int)) fX12_123 rfl dX12_akin_52 (o81 hT) (fmA.1) ?_
          refine G_istore (ls' := [some (.inr (some 81)), some (.inl a), some (.inl b), some (.inl A.1), some (.inl (A.2.1 : Int)), none, none]) dX12_akin_55 (by decide) rfl ?_
          refine G_iconst dX12_akin_57 ?_
          refine G_istore (ls' := [some (.inr (some 81)), some (.inl a), some (.inl b), some (.inl A.1), some (.inl (A.2.1 : Int)), some (.inl 0), none]) dX12_akin_58 (by decide) rfl ?_
          suffices K87 : G_ mX12_akin (d + 4) 0 0 87 [some (.inr (some 81)), some (.inl a), some (.inl b), some (.inl A.1), some (.inl (A.2.1 : Int)), none, none] [] τ (hf_ g 108 0 A.2.1 (g 107)) (Zi τ fun v h' => v = f_akin h a b ∧ FRk h h') by
            have := m_akin_B d τ g hT _ a b A.1 A.2.1 (by omega) K87 _ 0 (Nat.lt_succ_self _) (Nat.zero_le _)
            rw [hf_nil] at this
            exact this
          have fr2 : FRk h (hf_ g 108 0 A.2.1 (g 107)) := fun c i z1 z2 z3 => by rw [hf_na z2]; exact fr.k c i z1 z2 z3
          refine G_aload_n (i := 0) dX12_akin_87 rfl rfl ?_
          refine G_iload_n (i := 2) dX12_akin_88 rfl rfl ?_
          refine G_cVi (as := [.inl b]) qX12_282 (m_findForm d τ (hf_ g 108 0 A.2.1 (g 107)) hT b (by omega) (by rw [fr2 81 1 (by decide) (by decide) (by omega)]; omega) (by rw [f_N_c fr2, f_S_c fr2]; exact f_S_ok x (by omega))) rfl rfl (Nat.le_of_ble_eq_true rfl) (o81 hT) dX12_akin_89 (fun v2 g3 e3 => ?_)
          rw [f_N_c fr2, f_S_c fr2, fr2 81 1 (by decide) (by decide) (by omega)] at e3
          obtain ⟨p1, p2, fr3⟩ := e3
          have hv2 : v2 = 0 ∨ v2 = 1 := by cases hq : w_run (h 81 1) (f_S h b) (f_N h b).toNat with | none => exact Or.inl (p1 hq) | some W => exact Or.inr (p2 W hq).1
          refine G_if_ne (tgt := 98) dX12_akin_92 (by decide) (by omega) (fun c_5 => ?_) (fun c_5 => ?_)
          · obtain ⟨B, eB⟩ : ∃ W, w_run (h 81 1) (f_S h b) (f_N h b).toNat = some W := by cases hq : w_run (h 81 1) (f_S h b) (f_N h b).toNat with | none => (have := p1 hq; omega) | some W => exact ⟨W, rfl⟩
            obtain ⟨_, e38B, fmB⟩ := p2 B eB
            have sokB := f_S_ok x (f := b) (by omega)
            have wokB := w_run_ok (show 1 ≤ h 81 1 ∧ h 81 1 ≤ 9 by omega) _ (fun j hj => sokB.2.2 j (by omega)) _ eB
            have k1B := wokB.1
            have k2B := wokB.2.1
            have k3B := wokB.2.2.1
            refine G_iload_n (i := 3) dX12_akin_98 rfl rfl ?_
            refine G_aload_n (i := 0) dX12_akin_99 rfl rfl ?_
            refine G_getI (v := B.1) fX12_126 rfl dX12_akin_100 (o81 hT) (e38B) ?_
            suffices K_8 : ∀ x_7 : Int, x_7 = (if A.1 = B.1 then (if (A.2.1 : Int) = (B.2.1 : Int) then 1 else 0) else 0) → G_ mX12_akin (d + 4) 0 0 120 [some (.inr (some 81)), some (.inl a), some (.inl b), some (.inl A.1), some (.inl (A.2.1 : Int)), none, none] [.inl x_7] τ g3 (Zi τ fun v h' => v = f_akin h a b ∧ FRk h h') by
              refine G_icmp_ne (tgt := 119) dX12_akin_103 (by decide) (by omega) (by omega) (fun c_6 => ?_) (fun c_6 => ?_)
              · refine G_iconst dX12_akin_119 ?_
                exact K_8 _ (if_neg c_6).symm
              · refine G_iload dX12_akin_106 rfl ?_
                refine G_aload_n (i := 0) dX12_akin_108 rfl rfl ?_
                refine G_getI (v := (B.2.1 : Int)) fX12_123 rfl dX12_akin_109 (o81 hT) (fmB.1) ?_
                refine G_icmp_ne (tgt := 119) dX12_akin_112 (by decide) (by omega) (by omega) (fun c_9 => ?_) (fun c_9 => ?_)
                · refine G_iconst dX12_akin_119 ?_
                  exact K_8 _ ((if_pos c_6).trans (if_neg c_9)).symm
                · refine G_iconst dX12_akin_115 ?_
                  refine G_goto (tgt := 120) dX12_akin_116 (by decide) ?_
                  exact K_8 _ ((if_pos c_6).trans (if_pos c_9)).symm
            intro x_7 ex_7
            refine G_istore (ls' := [some (.inr (some 81)), some (.inl a), some (.inl b), some (.inl A.1), some (.inl (A.2.1 : Int)), some (.inl x_7), none]) dX12_akin_120 (by decide) rfl ?_
            refine G_iconst dX12_akin_122 ?_
            refine G_istore (ls' := [some (.inr (some 81)), some (.inl a), some (.inl b), some (.inl A.1), some (.inl (A.2.1 : Int)), some (.inl x_7), some (.inl 0)]) dX12_akin_123 (by decide) rfl ?_
            have hA : ∀ j : Nat, j < A.2.1 → g3 108 j = w_srt (h 81 1) A.2.1 A.2.2 A.2.1 j := fun j hj => by rw [fr3 108 j (by decide) (by omega), hf_in ⟨Nat.zero_le _, hj⟩]; exact fmA.2 j hj
            have eK : f_akin h a b = if ((A.1 = B.1 ∧ A.2.1 = B.2.1) ∧ ∀ j : Nat, j < A.2.1 → w_srt (h 81 1) B.2.1 B.2.2 B.2.1 j = w_srt (h 81 1) A.2.1 A.2.2 A.2.1 j) then 1 else 0 := by unfold f_akin; rw [if_neg (by omega), if_neg (by omega), eA, eB]
            rw [show x_7 = (if ((A.1 = B.1 ∧ A.2.1 = B.2.1) ∧ ∀ j : Nat, j < 0 → w_srt (h 81 1) B.2.1 B.2.2 B.2.1 j = w_srt (h 81 1) A.2.1 A.2.2 A.2.1 j) then 1 else 0) from by rw [ex_7]; first | (rw [bAndI]; exact bCg ⟨fun z => ⟨⟨z.1, by have := z.2; omega⟩, fun j hj => absurd hj (Nat.not_lt_zero _)⟩, fun z => ⟨z.1.1, by have := z.1.2; omega⟩⟩) | skip]
            exact m_akin_C d τ h hT g3 a b A.1 A B (by omega) (by omega) fmB hA (w_srt_ok wokA.2.2.2 _ (Nat.le_refl _)) (w_srt_ok wokB.2.2.2 _ (Nat.le_refl _)) (fr2.tr fr3.k) eK _ 0 (Nat.lt_succ_self _) (Nat.zero_le _)
          · refine G_bipush dX12_akin_95 (by decide) ?_
            refine G_iretZ rfl dX12_akin_97 ?_
            refine ⟨?_, fr2.tr fr3.k⟩
            unfold f_akin; rw [if_neg (by omega), if_neg (by omega)]
            have hq : w_run (h 81 1) (f_S h b) (f_N h b).toNat = none := by cases hq : w_run (h 81 1) (f_S h b) (f_N h b).toNat with | none => rfl | some W => (have := (p2 W hq).1; omega)
            rw [eA, hq]
        · refine G_bipush dX12_akin_43 (by decide) ?_
          refine G_iretZ rfl dX12_akin_45 ?_
          refine ⟨?_, fr.k⟩
          unfold f_akin; rw [if_neg (by omega), if_neg (by omega)]
          have hq : w_run (h 81 1) (f_S h a) (f_N h a).toNat = none := by cases hq : w_run (h 81 1) (f_S h a) (f_N h a).toNat with | none => rfl | some W => (have := (n2 W hq).1; omega)
          rw [hq]
    · refine G_aload_n (i := 0) dX12_akin_18 rfl rfl ?_
      refine G_iload_n (i := 2) dX12_akin_19 rfl rfl ?_
      refine G_cVq (as := [.inl b]) qX12_244 (m_isFigure (d + 2) τ h hT b (by omega) x.f_) rfl rfl (Nat.le_of_ble_eq_true rfl) (o81 hT) dX12_akin_20 ?_
      refine G_ifb_ne (tgt := 28) dX12_akin_23 (by decide) (fun c_10 => ?_) (fun c_10 => ?_)
      · refine G_aload_n (i := 0) dX12_akin_28 rfl rfl ?_
        refine G_getI (v := h 81 1) fX12_13 rfl dX12_akin_29 (o81 hT) rfl ?_
        refine G_if_eq (tgt := 43) dX12_akin_32 (by decide) (by omega) (fun c_11 => ?_) (fun c_11 => ?_)
        · refine G_bipush dX12_akin_43 (by decide) ?_
          refine G_iretZ rfl dX12_akin_45 ?_
          exact ⟨by unfold f_akin; (repeat (first | rw [if_pos (by omega)] | rw [if_neg (by omega)])), FRk.rf⟩
        · refine G_aload_n (i := 0) dX12_akin_35 rfl rfl ?_
          refine G_iload_n (i := 1) dX12_akin_36 rfl rfl ?_
          refine G_cVi (as := [.inl a]) qX12_282 (m_findForm d τ h hT a (by omega) (by omega) (f_S_ok x (by omega))) rfl rfl (Nat.le_of_ble_eq_true rfl) (o81 hT) dX12_akin_37 (fun v1 g e1 => ?_)
          obtain ⟨n1, n2, fr⟩ := e1
          have hv1 : v1 = 0 ∨ v1 = 1 := by cases hq : w_run (h 81 1) (f_S h a) (f_N h a).toNat with | none => exact Or.inl (n1 hq) | some W => exact Or.inr (n2 W hq).1
          refine G_if_ne (tgt := 46) dX12_akin_40 (by decide) (by omega) (fun c_12 => ?_) (fun c_12 => ?_)
          · obtain ⟨A, eA⟩ : ∃ W, w_run (h 81 1) (f_S h a) (f_N h a).toNat = some W := by cases hq : w_run (h 81 1) (f_S h a) (f_N h a).toNat with | none => (have := n1 hq; omega) | some W => exact ⟨W, rfl⟩
            obtain ⟨_, e38A, fmA⟩ := n2 A eA
            have sokA := f_S_ok x (f := a) (by omega)
            have wokA := w_run_ok (show 1 ≤ h 81 1 ∧ h 81 1 ≤ 9 by omega) _ (fun j hj => sokA.2.2 j (by omega)) _ eA
            have k1A := wokA.1
            have k2A := wokA.2.1
            have k3A := wokA.2.2.1
            refine G_aload_n (i := 0) dX12_akin_46 rfl rfl ?_
            refine G_getI (v := A.1) fX12_126 rfl dX12_akin_47 (o81 hT) (e38A) ?_
            refine G_istore_n (i := 3) (ls' := [some (.inr (some 81)), some (.inl a), some (.inl b), some (.inl A.1), none, none, none]) dX12_akin_50 rfl (by decide) rfl ?_
            refine G_aload_n (i := 0) dX12_akin_51 rfl rfl ?_
            refine G_getI (v := (A.2.1 : Int)) fX12_123 rfl dX12_akin_52 (o81 hT) (fmA.1) ?_
            refine G_istore (ls' := [some (.inr (some 81)), some (.inl a), some (.inl b), some (.inl A.1), some (.inl (A.2.1 : Int)), none, none]) dX12_akin_55 (by decide) rfl ?_
            refine G_iconst dX12_akin_57 ?_
            refine G_istore (ls' := [some (.inr (some 81)), some (.inl a), some (.inl b), some (.inl A.1), some (.inl (A.2.1 : Int)), some (.inl 0), none]) dX12_akin_58 (by decide) rfl ?_
            suffices K87 : G_ mX12_akin (d + 4) 0 0 87 [some (.inr (some 81)), some (.inl a), some (.inl b), some (.inl A.1), some (.inl (A.2.1 : Int)), none, none] [] τ (hf_ g 108 0 A.2.1 (g 107)) (Zi τ fun v h' => v = f_akin h a b ∧ FRk h h') by
              have := m_akin_B d τ g hT _ a b A.1 A.2.1 (by omega) K87 _ 0 (Nat.lt_succ_self _) (Nat.zero_le _)
              rw [hf_nil] at this
              exact this
            have fr2 : FRk h (hf_ g 108 0 A.2.1 (g 107)) := fun c i z1 z2 z3 => by rw [hf_na z2]; exact fr.k c i z1 z2 z3
            refine G_aload_n (i := 0) dX12_akin_87 rfl rfl ?_
            refine G_iload_n (i := 2) dX12_akin_88 rfl rfl ?_
            refine G_cVi (as := [.inl b]) qX12_282 (m_findForm d τ (hf_ g 108 0 A.2.1 (g 107)) hT b (by omega) (by rw [fr2 81 1 (by decide) (by decide) (by omega)]; omega) (by rw [f_N_c fr2, f_S_c fr2]; exact f_S_ok x (by omega))) rfl rfl (Nat.le_of_ble_eq_true rfl) (o81 hT) dX12_akin_89 (fun v2 g3 e3 => ?_)
            rw [f_N_c fr2, f_S_c fr2, fr2 81 1 (by decide) (by decide) (by omega)] at e3
            obtain ⟨p1, p2, fr3⟩ := e3
            have hv2 : v2 = 0 ∨ v2 = 1 := by cases hq : w_run (h 81 1) (f_S h b) (f_N h b).toNat with | none => exact Or.inl (p1 hq) | some W => exact Or.inr (p2 W hq).1
            refine G_if_ne (tgt := 98) dX12_akin_92 (by decide) (by omega) (fun c_13 => ?_) (fun c_13 => ?_)
            · obtain ⟨B, eB⟩ : ∃ W, w_run (h 81 1) (f_S h b) (f_N h b).toNat = some W := by cases hq : w_run (h 81 1) (f_S h b) (f_N h b).toNat with | none => (have := p1 hq; omega) | some W => exact ⟨W, rfl⟩
              obtain ⟨_, e38B, fmB⟩ := p2 B eB
              have sokB := f_S_ok x (f := b) (by omega)
              have wokB := w_run_ok (show 1 ≤ h 81 1 ∧ h 81 1 ≤ 9 by omega) _ (fun j hj => sokB.2.2 j (by omega)) _ eB
              have k1B := wokB.1
              have k2B := wokB.2.1
              have k3B := wokB.2.2.1
              refine G_iload_n (i := 3) dX12_akin_98 rfl rfl ?_
              refine G_aload_n (i := 0) dX12_akin_99 rfl rfl ?_
              refine G_getI (v := B.1) fX12_126 rfl dX12_akin_100 (o81 hT) (e38B) ?_
              suffices K_16 : ∀ x_15 : Int, x_15 = (if A.1 = B.1 then (if (A.2.1 : Int) = (B.2.1 : Int) then 1 else 0) else 0) → G_ mX12_akin (d + 4) 0 0 120 [some (.inr (some 81)), some (.inl a), some (.inl b), some (.inl A.1), some (.inl (A.2.1 : Int)), none, none] [.inl x_15] τ g3 (Zi τ fun v h' => v = f_akin h a b ∧ FRk h h') by
                refine G_icmp_ne (tgt := 119) dX12_akin_103 (by decide) (by omega) (by omega) (fun c_14 => ?_) (fun c_14 => ?_)
                · refine G_iconst dX12_akin_119 ?_
                  exact K_16 _ (if_neg c_14).symm
                · refine G_iload dX12_akin_106 rfl ?_
                  refine G_aload_n (i := 0) dX12_akin_108 rfl rfl ?_
                  refine G_getI (v := (B.2.1 : Int)) fX12_123 rfl dX12_akin_109 (o81 hT) (fmB.1) ?_
                  refine G_icmp_ne (tgt := 119) dX12_akin_112 (by decide) (by omega) (by omega) (fun c_17 => ?_) (fun c_17 => ?_)
                  · refine G_iconst dX12_akin_119 ?_
                    exact K_16 _ ((if_pos c_14).trans (if_neg c_17)).symm
                  · refine G_iconst dX12_akin_115 ?_
                    refine G_goto (tgt := 120) dX12_akin_116 (by decide) ?_
                    exact K_16 _ ((if_pos c_14).trans (if_pos c_17)).symm
              intro x_15 ex_15
              refine G_istore (ls' := [some (.inr (some 81)), some (.inl a), some (.inl b), some (.inl A.1), some (.inl (A.2.1 : Int)), some (.inl x_15), none]) dX12_akin_120 (by decide) rfl ?_
              refine G_iconst dX12_akin_122 ?_
              refine G_istore (ls' := [some (.inr (some 81)), some (.inl a), some (.inl b), some (.inl A.1), some (.inl (A.2.1 : Int)), some (.inl x_15), some (.inl 0)]) dX12_akin_123 (by decide) rfl ?_
              have hA : ∀ j : Nat, j < A.2.1 → g3 108 j = w_srt (h 81 1) A.2.1 A.2.2 A.2.1 j := fun j hj => by rw [fr3 108 j (by decide) (by omega), hf_in ⟨Nat.zero_le _, hj⟩]; exact fmA.2 j hj
              have eK : f_akin h a b = if ((A.1 = B.1 ∧ A.2.1 = B.2.1) ∧ ∀ j : Nat, j < A.2.1 → w_srt (h 81 1) B.2.1 B.2.2 B.2.1 j = w_srt (h 81 1) A.2.1 A.2.2 A.2.1 j) then 1 else 0 := by unfold f_akin; rw [if_neg (by omega), if_neg (by omega), eA, eB]
              rw [show x_15 = (if ((A.1 = B.1 ∧ A.2.1 = B.2.1) ∧ ∀ j : Nat, j < 0 → w_srt (h 81 1) B.2.1 B.2.2 B.2.1 j = w_srt (h 81 1) A.2.1 A.2.2 A.2.1 j) then 1 else 0) from by rw [ex_15]; first | (rw [bAndI]; exact bCg ⟨fun z => ⟨⟨z.1, by have := z.2; omega⟩, fun j hj => absurd hj (Nat.not_lt_zero _)⟩, fun z => ⟨z.1.1, by have := z.1.2; omega⟩⟩) | skip]
              exact m_akin_C d τ h hT g3 a b A.1 A B (by omega) (by omega) fmB hA (w_srt_ok wokA.2.2.2 _ (Nat.le_refl _)) (w_srt_ok wokB.2.2.2 _ (Nat.le_refl _)) (fr2.tr fr3.k) eK _ 0 (Nat.lt_succ_self _) (Nat.zero_le _)
            · refine G_bipush dX12_akin_95 (by decide) ?_
              refine G_iretZ rfl dX12_akin_97 ?_
              refine ⟨?_, fr2.tr fr3.k⟩
              unfold f_akin; rw [if_neg (by omega), if_neg (by omega)]
              have hq : w_run (h 81 1) (f_S h b) (f_N h b).toNat = none := by cases hq : w_run (h 81 1) (f_S h b) (f_N h b).toNat with | none => rfl | some W => (have := (p2 W hq).1; omega)
              rw [eA, hq]
          · refine G_bipush dX12_akin_43 (by decide) ?_
            refine G_iretZ rfl dX12_akin_45 ?_
            refine ⟨?_, fr.k⟩
            unfold f_akin; rw [if_neg (by omega), if_neg (by omega)]
            have hq : w_run (h 81 1) (f_S h a) (f_N h a).toNat = none := by cases hq : w_run (h 81 1) (f_S h a) (f_N h a).toNat with | none => rfl | some W => (have := (n2 W hq).1; omega)
            rw [hq]
      · refine G_iconst dX12_akin_26 ?_
        refine G_iretZ rfl dX12_akin_27 ?_
        exact ⟨by unfold f_akin; (repeat (first | rw [if_pos (by omega)] | rw [if_neg (by omega)])), FRk.rf⟩
  · refine G_aload_n (i := 0) dX12_akin_5 rfl rfl ?_
    refine G_iload_n (i := 1) dX12_akin_6 rfl rfl ?_
    refine G_cVq (as := [.inl a]) qX12_244 (m_isFigure (d + 2) τ h hT a (by omega) x.f_) rfl rfl (Nat.le_of_ble_eq_true rfl) (o81 hT) dX12_akin_7 ?_
    refine G_ifb_eq (tgt := 26) dX12_akin_10 (by decide) (fun c_18 => ?_) (fun c_18 => ?_)
    · refine G_iconst dX12_akin_26 ?_
      refine G_iretZ rfl dX12_akin_27 ?_
      exact ⟨by unfold f_akin; (repeat (first | rw [if_pos (by omega)] | rw [if_neg (by omega)])), FRk.rf⟩
    · refine G_iload_n (i := 2) dX12_akin_13 rfl rfl ?_
      refine G_iconst dX12_akin_14 ?_
      refine G_icmp_eq (tgt := 28) dX12_akin_15 (by decide) (by omega) (by decide) (fun c_19 => ?_) (fun c_19 => ?_)
      · refine G_aload_n (i := 0) dX12_akin_28 rfl rfl ?_
        refine G_getI (v := h 81 1) fX12_13 rfl dX12_akin_29 (o81 hT) rfl ?_
        refine G_if_eq (tgt := 43) dX12_akin_32 (by decide) (by omega) (fun c_20 => ?_) (fun c_20 => ?_)
        · refine G_bipush dX12_akin_43 (by decide) ?_
          refine G_iretZ rfl dX12_akin_45 ?_
          exact ⟨by unfold f_akin; (repeat (first | rw [if_pos (by omega)] | rw [if_neg (by omega)])), FRk.rf⟩
        · refine G_aload_n (i := 0) dX12_akin_35 rfl rfl ?_
          refine G_iload_n (i := 1) dX12_akin_36 rfl rfl ?_
          refine G_cVi (as := [.inl a]) qX12_282 (m_findForm d τ h hT a (by omega) (by omega) (f_S_ok x (by omega))) rfl rfl (Nat.le_of_ble_eq_true rfl) (o81 hT) dX12_akin_37 (fun v1 g e1 => ?_)
          obtain ⟨n1, n2, fr⟩ := e1
          have hv1 : v1 = 0 ∨ v1 = 1 := by cases hq : w_run (h 81 1) (f_S h a) (f_N h a).toNat with | none => exact Or.inl (n1 hq) | some W => exact Or.inr (n2 W hq).1
          refine G_if_ne (tgt := 46) dX12_akin_40 (by decide) (by omega) (fun c_21 => ?_) (fun c_21 => ?_)
          · obtain ⟨A, eA⟩ : ∃ W, w_run (h 81 1) (f_S h a) (f_N h a).toNat = some W := by cases hq : w_run (h 81 1) (f_S h a) (f_N h a).toNat with | none => (have := n1 hq; omega) | some W => exact ⟨W, rfl⟩
            obtain ⟨_, e38A, fmA⟩ := n2 A eA
            have sokA := f_S_ok x (f := a) (by omega)
            have wokA := w_run_ok (show 1 ≤ h 81 1 ∧ h 81 1 ≤ 9 by omega) _ (fun j hj => sokA.2.2 j (by omega)) _ eA
            have k1A := wokA.1
            have k2A := wokA.2.1
            have k3A := wokA.2.2.1
            refine G_aload_n (i := 0) dX12_akin_46 rfl rfl ?_
            refine G_getI (v := A.1) fX12_126 rfl dX12_akin_47 (o81 hT) (e38A) ?_
            refine G_istore_n (i := 3) (ls' := [some (.inr (some 81)), some (.inl a), some (.inl b), some (.inl A.1), none, none, none]) dX12_akin_50 rfl (by decide) rfl ?_
            refine G_aload_n (i := 0) dX12_akin_51 rfl rfl ?_
            refine G_getI (v := (A.2.1 : Int)) fX12_123 rfl dX12_akin_52 (o81 hT) (fmA.1) ?_
            refine G_istore (ls' := [some (.inr (some 81)), some (.inl a), some (.inl b), some (.inl A.1), some (.inl (A.2.1 : Int)), none, none]) dX12_akin_55 (by decide) rfl ?_
            refine G_iconst dX12_akin_57 ?_
            refine G_istore (ls' := [some (.inr (some 81)), some (.inl a), some (.inl b), some (.inl A.1), some (.inl (A.2.1 : Int)), some (.inl 0), none]) dX12_akin_58 (by decide) rfl ?_
            suffices K87 : G_ mX12_akin (d + 4) 0 0 87 [some (.inr (some 81)), some (.inl a), some (.inl b), some (.inl A.1), some (.inl (A.2.1 : Int)), none, none] [] τ (hf_ g 108 0 A.2.1 (g 107)) (Zi τ fun v h' => v = f_akin h a b ∧ FRk h h') by
              have := m_akin_B d τ g hT _ a b A.1 A.2.1 (by omega) K87 _ 0 (Nat.lt_succ_self _) (Nat.zero_le _)
              rw [hf_nil] at this
              exact this
            have fr2 : FRk h (hf_ g 108 0 A.2.1 (g 107)) := fun c i z1 z2 z3 => by rw [hf_na z2]; exact fr.k c i z1 z2 z3
            refine G_aload_n (i := 0) dX12_akin_87 rfl rfl ?_
            refine G_iload_n (i := 2) dX12_akin_88 rfl rfl ?_
            refine G_cVi (as := [.inl b]) qX12_282 (m_findForm d τ (hf_ g 108 0 A.2.1 (g 107)) hT b (by omega) (by rw [fr2 81 1 (by decide) (by decide) (by omega)]; omega) (by rw [f_N_c fr2, f_S_c fr2]; exact f_S_ok x (by omega))) rfl rfl (Nat.le_of_ble_eq_true rfl) (o81 hT) dX12_akin_89 (fun v2 g3 e3 => ?_)
            rw [f_N_c fr2, f_S_c fr2, fr2 81 1 (by decide) (by decide) (by omega)] at e3
            obtain ⟨p1, p2, fr3⟩ := e3
            have hv2 : v2 = 0 ∨ v2 = 1 := by cases hq : w_run (h 81 1) (f_S h b) (f_N h b).toNat with | none => exact Or.inl (p1 hq) | some W => exact Or.inr (p2 W hq).1
            refine G_if_ne (tgt := 98) dX12_akin_92 (by decide) (by omega) (fun c_22 => ?_) (fun c_22 => ?_)
            · obtain ⟨B, eB⟩ : ∃ W, w_run (h 81 1) (f_S h b) (f_N h b).toNat = some W := by cases hq : w_run (h 81 1) (f_S h b) (f_N h b).toNat with | none => (have := p1 hq; omega) | some W => exact ⟨W, rfl⟩
              obtain ⟨_, e38B, fmB⟩ := p2 B eB
              have sokB := f_S_ok x (f := b) (by omega)
              have wokB := w_run_ok (show 1 ≤ h 81 1 ∧ h 81 1 ≤ 9 by omega) _ (fun j hj => sokB.2.2 j (by omega)) _ eB
              have k1B := wokB.1
              have k2B := wokB.2.1
              have k3B := wokB.2.2.1
              refine G_iload_n (i := 3) dX12_akin_98 rfl rfl ?_
              refine G_aload_n (i := 0) dX12_akin_99 rfl rfl ?_
              refine G_getI (v := B.1) fX12_126 rfl dX12_akin_100 (o81 hT) (e38B) ?_
              suffices K_25 : ∀ x_24 : Int, x_24 = (if A.1 = B.1 then (if (A.2.1 : Int) = (B.2.1 : Int) then 1 else 0) else 0) → G_ mX12_akin (d + 4) 0 0 120 [some (.inr (some 81)), some (.inl a), some (.inl b), some (.inl A.1), some (.inl (A.2.1 : Int)), none, none] [.inl x_24] τ g3 (Zi τ fun v h' => v = f_akin h a b ∧ FRk h h') by
                refine G_icmp_ne (tgt := 119) dX12_akin_103 (by decide) (by omega) (by omega) (fun c_23 => ?_) (fun c_23 => ?_)
                · refine G_iconst dX12_akin_119 ?_
                  exact K_25 _ (if_neg c_23).symm
                · refine G_iload dX12_akin_106 rfl ?_
                  refine G_aload_n (i := 0) dX12_akin_108 rfl rfl ?_
                  refine G_getI (v := (B.2.1 : Int)) fX12_123 rfl dX12_akin_109 (o81 hT) (fmB.1) ?_
                  refine G_icmp_ne (tgt := 119) dX12_akin_112 (by decide) (by omega) (by omega) (fun c_26 => ?_) (fun c_26 => ?_)
                  · refine G_iconst dX12_akin_119 ?_
                    exact K_25 _ ((if_pos c_23).trans (if_neg c_26)).symm
                  · refine G_iconst dX12_akin_115 ?_
                    refine G_goto (tgt := 120) dX12_akin_116 (by decide) ?_
                    exact K_25 _ ((if_pos c_23).trans (if_pos c_26)).symm
              intro x_24 ex_24
              refine G_istore (ls' := [some (.inr (some 81)), some (.inl a), some (.inl b), some (.inl A.1), some (.inl (A.2.1 : Int)), some (.inl x_24), none]) dX12_akin_120 (by decide) rfl ?_
              refine G_iconst dX12_akin_122 ?_
              refine G_istore (ls' := [some (.inr (some 81)), some (.inl a), some (.inl b), some (.inl A.1), some (.inl (A.2.1 : Int)), some (.inl x_24), some (.inl 0)]) dX12_akin_123 (by decide) rfl ?_
              have hA : ∀ j : Nat, j < A.2.1 → g3 108 j = w_srt (h 81 1) A.2.1 A.2.2 A.2.1 j := fun j hj => by rw [fr3 108 j (by decide) (by omega), hf_in ⟨Nat.zero_le _, hj⟩]; exact fmA.2 j hj
              have eK : f_akin h a b = if ((A.1 = B.1 ∧ A.2.1 = B.2.1) ∧ ∀ j : Nat, j < A.2.1 → w_srt (h 81 1) B.2.1 B.2.2 B.2.1 j = w_srt (h 81 1) A.2.1 A.2.2 A.2.1 j) then 1 else 0 := by unfold f_akin; rw [if_neg (by omega), if_neg (by omega), eA, eB]
              rw [show x_24 = (if ((A.1 = B.1 ∧ A.2.1 = B.2.1) ∧ ∀ j : Nat, j < 0 → w_srt (h 81 1) B.2.1 B.2.2 B.2.1 j = w_srt (h 81 1) A.2.1 A.2.2 A.2.1 j) then 1 else 0) from by rw [ex_24]; first | (rw [bAndI]; exact bCg ⟨fun z => ⟨⟨z.1, by have := z.2; omega⟩, fun j hj => absurd hj (Nat.not_lt_zero _)⟩, fun z => ⟨z.1.1, by have := z.1.2; omega⟩⟩) | skip]
              exact m_akin_C d τ h hT g3 a b A.1 A B (by omega) (by omega) fmB hA (w_srt_ok wokA.2.2.2 _ (Nat.le_refl _)) (w_srt_ok wokB.2.2.2 _ (Nat.le_refl _)) (fr2.tr fr3.k) eK _ 0 (Nat.lt_succ_self _) (Nat.zero_le _)
            · refine G_bipush dX12_akin_95 (by decide) ?_
              refine G_iretZ rfl dX12_akin_97 ?_
              refine ⟨?_, fr2.tr fr3.k⟩
              unfold f_akin; rw [if_neg (by omega), if_neg (by omega)]
              have hq : w_run (h 81 1) (f_S h b) (f_N h b).toNat = none := by cases hq : w_run (h 81 1) (f_S h b) (f_N h b).toNat with | none => rfl | some W => (have := (p2 W hq).1; omega)
              rw [eA, hq]
          · refine G_bipush dX12_akin_43 (by decide) ?_
            refine G_iretZ rfl dX12_akin_45 ?_
            refine ⟨?_, fr.k⟩
            unfold f_akin; rw [if_neg (by omega), if_neg (by omega)]
            have hq : w_run (h 81 1) (f_S h a) (f_N h a).toNat = none := by cases hq : w_run (h 81 1) (f_S h a) (f_N h a).toNat with | none => rfl | some W => (have := (n2 W hq).1; omega)
            rw [hq]
      · refine G_aload_n (i := 0) dX12_akin_18 rfl rfl ?_
        refine G_iload_n (i := 2) dX12_akin_19 rfl rfl ?_
        refine G_cVq (as := [.inl b]) qX12_244 (m_isFigure (d + 2) τ h hT b (by omega) x.f_) rfl rfl (Nat.le_of_ble_eq_true rfl) (o81 hT) dX12_akin_20 ?_
        refine G_ifb_ne (tgt := 28) dX12_akin_23 (by decide) (fun c_27 => ?_) (fun c_27 => ?_)
        · refine G_aload_n (i := 0) dX12_akin_28 rfl rfl ?_
          refine G_getI (v := h 81 1) fX12_13 rfl dX12_akin_29 (o81 hT) rfl ?_
          refine G_if_eq (tgt := 43) dX12_akin_32 (by decide) (by omega) (fun c_28 => ?_) (fun c_28 => ?_)
          · refine G_bipush dX12_akin_43 (by decide) ?_
            refine G_iretZ rfl dX12_akin_45 ?_
            exact ⟨by unfold f_akin; (repeat (first | rw [if_pos (by omega)] | rw [if_neg (by omega)])), FRk.rf⟩
          · refine G_aload_n (i := 0) dX12_akin_35 rfl rfl ?_
            refine G_iload_n (i := 1) dX12_akin_36 rfl rfl ?_
            refine G_cVi (as := [.inl a]) qX12_282 (m_findForm d τ h hT a (by omega) (by omega) (f_S_ok x (by omega))) rfl rfl (Nat.le_of_ble_eq_true rfl) (o81 hT) dX12_akin_37 (fun v1 g e1 => ?_)
            obtain ⟨n1, n2, fr⟩ := e1
            have hv1 : v1 = 0 ∨ v1 = 1 := by cases hq : w_run (h 81 1) (f_S h a) (f_N h a).toNat with | none => exact Or.inl (n1 hq) | some W => exact Or.inr (n2 W hq).1
            refine G_if_ne (tgt := 46) dX12_akin_40 (by decide) (by omega) (fun c_29 => ?_) (fun c_29 => ?_)
            · obtain ⟨A, eA⟩ : ∃ W, w_run (h 81 1) (f_S h a) (f_N h a).toNat = some W := by cases hq : w_run (h 81 1) (f_S h a) (f_N h a).toNat with | none => (have := n1 hq; omega) | some W => exact ⟨W, rfl⟩
              obtain ⟨_, e38A, fmA⟩ := n2 A eA
              have sokA := f_S_ok x (f := a) (by omega)
              have wokA := w_run_ok (show 1 ≤ h 81 1 ∧ h 81 1 ≤ 9 by omega) _ (fun j hj => sokA.2.2 j (by omega)) _ eA
              have k1A := wokA.1
              have k2A := wokA.2.1
              have k3A := wokA.2.2.1
              refine G_aload_n (i := 0) dX12_akin_46 rfl rfl ?_
              refine G_getI (v := A.1) fX12_126 rfl dX12_akin_47 (o81 hT) (e38A) ?_
              refine G_istore_n (i := 3) (ls' := [some (.inr (some 81)), some (.inl a), some (.inl b), some (.inl A.1), none, none, none]) dX12_akin_50 rfl (by decide) rfl ?_
              refine G_aload_n (i := 0) dX12_akin_51 rfl rfl ?_
              refine G_getI (v := (A.2.1 : Int)) fX12_123 rfl dX12_akin_52 (o81 hT) (fmA.1) ?_
              refine G_istore (ls' := [some (.inr (some 81)), some (.inl a), some (.inl b), some (.inl A.1), some (.inl (A.2.1 : Int)), none, none]) dX12_akin_55 (by decide) rfl ?_
              refine G_iconst dX12_akin_57 ?_
              refine G_istore (ls' := [some (.inr (some 81)), some (.inl a), some (.inl b), some (.inl A.1), some (.inl (A.2.1 : Int)), some (.inl 0), none]) dX12_akin_58 (by decide) rfl ?_
              suffices K87 : G_ mX12_akin (d + 4) 0 0 87 [some (.inr (some 81)), some (.inl a), some (.inl b), some (.inl A.1), some (.inl (A.2.1 : Int)), none, none] [] τ (hf_ g 108 0 A.2.1 (g 107)) (Zi τ fun v h' => v = f_akin h a b ∧ FRk h h') by
                have := m_akin_B d τ g hT _ a b A.1 A.2.1 (by omega) K87 _ 0 (Nat.lt_succ_self _) (Nat.zero_le _)
                rw [hf_nil] at this
                exact this
              have fr2 : FRk h (hf_ g 108 0 A.2.1 (g 107)) := fun c i z1 z2 z3 => by rw [hf_na z2]; exact fr.k c i z1 z2 z3
              refine G_aload_n (i := 0) dX12_akin_87 rfl rfl ?_
              refine G_iload_n (i := 2) dX12_akin_88 rfl rfl ?_
              refine G_cVi (as := [.inl b]) qX12_282 (m_findForm d τ (hf_ g 108 0 A.2.1 (g 107)) hT b (by omega) (by rw [fr2 81 1 (by decide) (by decide) (by omega)]; omega) (by rw [f_N_c fr2, f_S_c fr2]; exact f_S_ok x (by omega))) rfl rfl (Nat.le_of_ble_eq_true rfl) (o81 hT) dX12_akin_89 (fun v2 g3 e3 => ?_)
              rw [f_N_c fr2, f_S_c fr2, fr2 81 1 (by decide) (by decide) (by omega)] at e3
              obtain ⟨p1, p2, fr3⟩ := e3
              have hv2 : v2 = 0 ∨ v2 = 1 := by cases hq : w_run (h 81 1) (f_S h b) (f_N h b).toNat with | none => exact Or.inl (p1 hq) | some W => exact Or.inr (p2 W hq).1
              refine G_if_ne (tgt := 98) dX12_akin_92 (by decide) (by omega) (fun c_30 => ?_) (fun c_30 => ?_)
              · obtain ⟨B, eB⟩ : ∃ W, w_run (h 81 1) (f_S h b) (f_N h b).toNat = some W := by cases hq : w_run (h 81 1) (f_S h b) (f_N h b).toNat with | none => (have := p1 hq; omega) | some W => exact ⟨W, rfl⟩
                obtain ⟨_, e38B, fmB⟩ := p2 B eB
                have sokB := f_S_ok x (f := b) (by omega)
                have wokB := w_run_ok (show 1 ≤ h 81 1 ∧ h 81 1 ≤ 9 by omega) _ (fun j hj => sokB.2.2 j (by omega)) _ eB
                have k1B := wokB.1
                have k2B := wokB.2.1
                have k3B := wokB.2.2.1
                refine G_iload_n (i := 3) dX12_akin_98 rfl rfl ?_
                refine G_aload_n (i := 0) dX12_akin_99 rfl rfl ?_
                refine G_getI (v := B.1) fX12_126 rfl dX12_akin_100 (o81 hT) (e38B) ?_
                suffices K_33 : ∀ x_32 : Int, x_32 = (if A.1 = B.1 then (if (A.2.1 : Int) = (B.2.1 : Int) then 1 else 0) else 0) → G_ mX12_akin (d + 4) 0 0 120 [some (.inr (some 81)), some (.inl a), some (.inl b), some (.inl A.1), some (.inl (A.2.1 : Int)), none, none] [.inl x_32] τ g3 (Zi τ fun v h' => v = f_akin h a b ∧ FRk h h') by
                  refine G_icmp_ne (tgt := 119) dX12_akin_103 (by decide) (by omega) (by omega) (fun c_31 => ?_) (fun c_31 => ?_)
                  · refine G_iconst dX12_akin_119 ?_
                    exact K_33 _ (if_neg c_31).symm
                  · refine G_iload dX12_akin_106 rfl ?_
                    refine G_aload_n (i := 0) dX12_akin_108 rfl rfl ?_
                    refine G_getI (v := (B.2.1 : Int)) fX12_123 rfl dX12_akin_109 (o81 hT) (fmB.1) ?_
                    refine G_icmp_ne (tgt := 119) dX12_akin_112 (by decide) (by omega) (by omega) (fun c_34 => ?_) (fun c_34 => ?_)
                    · refine G_iconst dX12_akin_119 ?_
                      exact K_33 _ ((if_pos c_31).trans (if_neg c_34)).symm
                    · refine G_iconst dX12_akin_115 ?_
                      refine G_goto (tgt := 120) dX12_akin_116 (by decide) ?_
                      exact K_33 _ ((if_pos c_31).trans (if_pos c_34)).symm
                intro x_32 ex_32
                refine G_istore (ls' := [some (.inr (some 81)), some (.inl a), some (.inl b), some (.inl A.1), some (.inl (A.2.1 : Int)), some (.inl x_32), none]) dX12_akin_120 (by decide) rfl ?_
                refine G_iconst dX12_akin_122 ?_
                refine G_istore (ls' := [some (.inr (some 81)), some (.inl a), some (.inl b), some (.inl A.1), some (.inl (A.2.1 : Int)), some (.inl x_32), some (.inl 0)]) dX12_akin_123 (by decide) rfl ?_
                have hA : ∀ j : Nat, j < A.2.1 → g3 108 j = w_srt (h 81 1) A.2.1 A.2.2 A.2.1 j := fun j hj => by rw [fr3 108 j (by decide) (by omega), hf_in ⟨Nat.zero_le _, hj⟩]; exact fmA.2 j hj
                have eK : f_akin h a b = if ((A.1 = B.1 ∧ A.2.1 = B.2.1) ∧ ∀ j : Nat, j < A.2.1 → w_srt (h 81 1) B.2.1 B.2.2 B.2.1 j = w_srt (h 81 1) A.2.1 A.2.2 A.2.1 j) then 1 else 0 := by unfold f_akin; rw [if_neg (by omega), if_neg (by omega), eA, eB]
                rw [show x_32 = (if ((A.1 = B.1 ∧ A.2.1 = B.2.1) ∧ ∀ j : Nat, j < 0 → w_srt (h 81 1) B.2.1 B.2.2 B.2.1 j = w_srt (h 81 1) A.2.1 A.2.2 A.2.1 j) then 1 else 0) from by rw [ex_32]; first | (rw [bAndI]; exact bCg ⟨fun z => ⟨⟨z.1, by have := z.2; omega⟩, fun j hj => absurd hj (Nat.not_lt_zero _)⟩, fun z => ⟨z.1.1, by have := z.1.2; omega⟩⟩) | skip]
                exact m_akin_C d τ h hT g3 a b A.1 A B (by omega) (by omega) fmB hA (w_srt_ok wokA.2.2.2 _ (Nat.le_refl _)) (w_srt_ok wokB.2.2.2 _ (Nat.le_refl _)) (fr2.tr fr3.k) eK _ 0 (Nat.lt_succ_self _) (Nat.zero_le _)
              · refine G_bipush dX12_akin_95 (by decide) ?_
                refine G_iretZ rfl dX12_akin_97 ?_
                refine ⟨?_, fr2.tr fr3.k⟩
                unfold f_akin; rw [if_neg (by omega), if_neg (by omega)]
                have hq : w_run (h 81 1) (f_S h b) (f_N h b).toNat = none := by cases hq : w_run (h 81 1) (f_S h b) (f_N h b).toNat with | none => rfl | some W => (have := (p2 W hq).1; omega)
                rw [eA, hq]
            · refine G_bipush dX12_akin_43 (by decide) ?_
              refine G_iretZ rfl dX12_akin_45 ?_
              refine ⟨?_, fr.k⟩
              unfold f_akin; rw [if_neg (by omega), if_neg (by omega)]
              have hq : w_run (h 81 1) (f_S h a) (f_N h a).toNat = none := by cases hq : w_run (h 81 1) (f_S h a) (f_N h a).toNat with | none => rfl | some W => (have := (n2 W hq).1; omega)
              rw [hq]
        · refine G_iconst dX12_akin_26 ?_
          refine G_iretZ rfl dX12_akin_27 ?_
          exact ⟨by unfold f_akin; (repeat (first | rw [if_pos (by omega)] | rw [if_neg (by omega)])), FRk.rf⟩

