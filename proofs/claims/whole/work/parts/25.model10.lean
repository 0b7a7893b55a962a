/-! the reference: reading a text -/
def f_un (h : HT) (f l i : Nat) : HT := fun b j => if b = 103 ∧ ((3000 + f ≤ j ∧ j < 3000 + f + i) ∨ (3000 + l ≤ j + i ∧ j < 3000 + l)) then o_un (h 103 (5999 + f + l - j)) else h b j
def f_und (h : HT) (f l : Nat) : HT := fun b j => if b = 103 ∧ 3000 + f ≤ j ∧ j < 3000 + l then o_un (h 103 (5999 + f + l - j)) else h b j
theorem f_un0 {h : HT} {f l : Nat} : f_un h f l 0 = h := by
  funext b j; exact if_neg (by omega)
theorem f_un_o {h : HT} {f l i j : Nat} (hj : 3000 + f + i ≤ j ∧ j + i < 3000 + l) : f_un h f l i 103 j = h 103 j := if_neg (by omega)
theorem f_un_s {h : HT} {f l i A B : Nat} (hA : A = 3000 + f + i) (hB : B + i = 2999 + l) (hab : A < B) : hs_ (hs_ (f_un h f l i) 103 A (o_un (h 103 B))) 103 B (o_un (h 103 A)) = f_un h f l (i + 1) := by
  funext b j
  simp only [hs_, f_un]
  by_cases hb : b = 103
  · subst hb
    by_cases h1 : j = B
    · subst h1
      rw [if_pos ⟨rfl, rfl⟩, if_pos ⟨rfl, by omega⟩]
      congr 2; omega
    · rw [if_neg (fun q => h1 q.2)]
      by_cases h2 : j = A
      · subst h2
        rw [if_pos ⟨rfl, rfl⟩, if_pos ⟨rfl, by omega⟩]
        congr 2; omega
      · rw [if_neg (fun q => h2 q.2)]
        by_cases h3 : (3000 + f ≤ j ∧ j < 3000 + f + i) ∨ (3000 + l ≤ j + i ∧ j < 3000 + l)
        · rw [if_pos ⟨rfl, h3⟩, if_pos ⟨rfl, by omega⟩]
        · rw [if_neg (fun q => h3 q.2), if_neg (fun q => h3 (by omega))]
  · rw [if_neg (fun q => hb q.1), if_neg (fun q => hb q.1), if_neg (fun q => hb q.1), if_neg (fun q => hb q.1)]
theorem f_un_e {h : HT} {f l i A B : Nat} (hA : A = 3000 + f + i) (hB : B + i = 2999 + l) (hab : A = B) (hfl : f + i ≤ l) : hs_ (f_un h f l i) 103 A (o_un (h 103 A)) = f_und h f l := by
  funext b j
  simp only [hs_, f_un, f_und]
  by_cases hb : b = 103
  · subst hb
    by_cases h2 : j = A
    · subst h2
      rw [if_pos ⟨rfl, rfl⟩, if_pos ⟨rfl, by omega⟩]
      congr 2; omega
    · rw [if_neg (fun q => h2 q.2)]
      by_cases h3 : 3000 + f ≤ j ∧ j < 3000 + l
      · rw [if_pos ⟨rfl, by omega⟩, if_pos ⟨rfl, h3⟩]
      · rw [if_neg (fun q => h3 (by omega)), if_neg (fun q => h3 q.2)]
  · rw [if_neg (fun q => hb q.1), if_neg (fun q => hb q.1), if_neg (fun q => hb q.1)]
theorem f_un_f {h : HT} {f l i A B : Nat} (hA : A = 3000 + f + i) (hB : B + i = 2999 + l) (hab : B < A) (hfl : f + i ≤ l) : f_un h f l i = f_und h f l := by
  funext b j
  simp only [f_un, f_und]
  by_cases hb : b = 103
  · subst hb
    by_cases h3 : 3000 + f ≤ j ∧ j < 3000 + l
    · rw [if_pos ⟨rfl, by omega⟩, if_pos ⟨rfl, h3⟩]
    · rw [if_neg (fun q => h3 (by omega)), if_neg (fun q => h3 q.2)]
  · rw [if_neg (fun q => hb q.1), if_neg (fun q => hb q.1)]
theorem OM_und {h : HT} {o : OT} {f : Nat} (x : OM h o) (hf : f ≤ o.1.length) : OM (f_und h f o.1.length) (o_und o.1 f, o.2) ∧ FRa h (f_und h f o.1.length) := by
  obtain ⟨a, b, c, e⟩ := x
  refine ⟨⟨?_, ?_, ?_, ?_⟩, ?_⟩
  · rw [show f_und h f o.1.length 102 10 = h 102 10 from if_neg fun q => absurd q.1 (by decide)]
    simp only [o_und_len _ _ hf]; exact a
  · simp only [o_und_len _ _ hf]; exact b
  · intro i hi
    simp only [o_und_len _ _ hf] at hi
    rw [o_und_at _ _ _ hf hi]
    by_cases h1 : i < f
    · rw [if_pos h1, show f_und h f o.1.length 103 (3000 + i) = h 103 (3000 + i) from if_neg fun q => by omega]
      exact c i hi
    · rw [if_neg h1, show f_und h f o.1.length 103 (3000 + i) = o_un (h 103 (5999 + f + o.1.length - (3000 + i))) from if_pos ⟨rfl, by omega⟩, c _ (by omega)]
      simp only [Option.map_some, Option.some.injEq]
      congr 2; omega
  · rw [show f_und h f o.1.length 81 32 = h 81 32 from if_neg fun q => absurd q.1 (by decide)]; exact e
  · intro a i p q r; exact if_neg fun z => by have := p z.1; omega
def f_codes (h : HT) (f l : Nat) : Prop := ∀ k : Nat, f ≤ k → k < l → -2147483648 ≤ h 103 (3000 + k) ∧ h 103 (3000 + k) ≤ 2147483647
theorem m_undo_L (d : Nat) (τ : TT) (h : HT) (hT : TK τ) (f l : Nat) (hfl : f ≤ l) (hl : l ≤ 300) (hm : h 102 10 = l) (hcd : f_codes h f l) : ∀ (n_ : Nat) (i : Nat) (A : Nat) (Bv : Nat), l - i < n_ → A = 3000 + f + i → Bv + i = 2999 + l → f + 2 * i ≤ l → G_ mX12_undo (d + 1) 0 0 18 [some (.inr (some 81)), some (.inl (f : Int)), some (.inl (A : Int)), some (.inl (Bv : Int)), none] [] τ (f_un h f l i) (Zv τ fun h' => h' = f_und h f l) := by
  intro n_
  induction n_ with
  | zero => intro i A Bv hm_; exact absurd hm_ (Nat.not_lt_zero _)
  | succ n_ ih =>
    intro i A Bv hm_ hA hB hi
    refine G_iload_n (i := 2) dX12_undo_18 rfl rfl ?_
    refine G_iload_n (i := 3) dX12_undo_19 rfl rfl ?_
    refine G_icmp_ge (tgt := 68) dX12_undo_20 (by decide) (by omega) (by omega) (fun c_1 => ?_) (fun c_1 => ?_)
    · refine G_iload_n (i := 2) dX12_undo_68 rfl rfl ?_
      refine G_iload_n (i := 3) dX12_undo_69 rfl rfl ?_
      refine G_icmp_ne (tgt := 89) dX12_undo_70 (by decide) (by omega) (by omega) (fun c_2 => ?_) (fun c_2 => ?_)
      · refine G_vretZ rfl dX12_undo_89 ?_
        exact f_un_f hA hB (by omega) (by omega)
      · refine G_aload_n (i := 0) dX12_undo_73 rfl rfl ?_
        refine G_getR fX12_99 rfl dX12_undo_74 (o81 hT) (r81_29 hT) ?_
        refine G_iload_n (i := 2) dX12_undo_77 rfl rfl ?_
        refine G_aload_n (i := 0) dX12_undo_78 rfl rfl ?_
        refine G_aload_n (i := 0) dX12_undo_79 rfl rfl ?_
        refine G_getR fX12_99 rfl dX12_undo_80 (o81 hT) (r81_29 hT) ?_
        refine G_iload_n (i := 2) dX12_undo_83 rfl rfl ?_
        refine G_iald (v := h 103 A) dX12_undo_84 (o103 hT) (by omega) (f_un_o (by omega)) ?_
        have e84 := hcd (A - 3000) (by omega) (by omega)
        rw [show 3000 + (A - 3000) = A by omega] at e84
        refine G_cVq (as := [.inl (h 103 A)]) qX12_234 (m_undoing d τ (f_un h f l i) hT (h 103 A) (by first | omega | grind [hs_, hf_])) rfl rfl (Nat.le_of_ble_eq_true rfl) (o81 hT) dX12_undo_85 ?_
        refine G_iastk A dX12_undo_88 (o103 hT) (by omega) rfl ?_
        refine G_vretZ rfl dX12_undo_89 ?_
        exact f_un_e hA hB (by omega) (by omega)
    · refine G_aload_n (i := 0) dX12_undo_23 rfl rfl ?_
      refine G_getR fX12_99 rfl dX12_undo_24 (o81 hT) (r81_29 hT) ?_
      refine G_iload_n (i := 2) dX12_undo_27 rfl rfl ?_
      refine G_iald (v := h 103 A) dX12_undo_28 (o103 hT) (by omega) (f_un_o (by omega)) ?_
      have e28 := hcd (A - 3000) (by omega) (by omega)
      rw [show 3000 + (A - 3000) = A by omega] at e28
      refine G_istore (ls' := [some (.inr (some 81)), some (.inl (f : Int)), some (.inl (A : Int)), some (.inl (Bv : Int)), some (.inl (h 103 A))]) dX12_undo_29 (by decide) rfl ?_
      refine G_aload_n (i := 0) dX12_undo_31 rfl rfl ?_
      refine G_getR fX12_99 rfl dX12_undo_32 (o81 hT) (r81_29 hT) ?_
      refine G_iload_n (i := 2) dX12_undo_35 rfl rfl ?_
      refine G_aload_n (i := 0) dX12_undo_36 rfl rfl ?_
      refine G_aload_n (i := 0) dX12_undo_37 rfl rfl ?_
      refine G_getR fX12_99 rfl dX12_undo_38 (o81 hT) (r81_29 hT) ?_
      refine G_iload_n (i := 3) dX12_undo_41 rfl rfl ?_
      refine G_iald (v := h 103 Bv) dX12_undo_42 (o103 hT) (by omega) (f_un_o (by omega)) ?_
      have e42 := hcd (Bv - 3000) (by omega) (by omega)
      rw [show 3000 + (Bv - 3000) = Bv by omega] at e42
      refine G_cVq (as := [.inl (h 103 Bv)]) qX12_234 (m_undoing d τ (f_un h f l i) hT (h 103 Bv) (by first | omega | grind [hs_, hf_])) rfl rfl (Nat.le_of_ble_eq_true rfl) (o81 hT) dX12_undo_43 ?_
      refine G_iastk A dX12_undo_46 (o103 hT) (by omega) rfl ?_
      refine G_aload_n (i := 0) dX12_undo_47 rfl rfl ?_
      refine G_getR fX12_99 rfl dX12_undo_48 (o81 hT) (r81_29 hT) ?_
      refine G_iload_n (i := 3) dX12_undo_51 rfl rfl ?_
      refine G_aload_n (i := 0) dX12_undo_52 rfl rfl ?_
      refine G_iload dX12_undo_53 rfl ?_
      refine G_cVq (as := [.inl (h 103 A)]) qX12_234 (m_undoing d τ (hs_ (f_un h f l i) 103 A (o_un (h 103 Bv))) hT (h 103 A) (by first | omega | grind [hs_, hf_])) rfl rfl (Nat.le_of_ble_eq_true rfl) (o81 hT) dX12_undo_55 ?_
      refine G_iastk Bv dX12_undo_58 (o103 hT) (by omega) rfl ?_
      refine G_iinc (ls' := [some (.inr (some 81)), some (.inl (f : Int)), some (.inl ((A : Int) + 1)), some (.inl (Bv : Int)), some (.inl (h 103 A))]) dX12_undo_59 (by decide) rfl rfl ?_
      refine G_iinc (ls' := [some (.inr (some 81)), some (.inl (f : Int)), some (.inl ((A : Int) + 1)), some (.inl ((Bv : Int) + (-1))), some (.inl (h 103 A))]) dX12_undo_62 (by decide) rfl rfl ?_
      refine G_goto (tgt := 18) dX12_undo_65 (by decide) ?_
      refine G_lsub (ls' := [some (.inr (some 81)), some (.inl (f : Int)), some (.inl ((A : Int) + 1)), some (.inl ((Bv : Int) + (-1))), none]) (LS_same (LS_same (LS_same (LS_same (LS_none LS_nil))))) ?_
      rw [f_un_s hA hB (by omega)]
      rw [show (Bv : Int) + (-1) = ((Bv - 1 : Nat) : Int) by omega]
      exact ih (i + 1) (A + 1) (Bv - 1) (by omega) (by omega) (by omega) (by omega)

theorem m_undo (d : Nat) (τ : TT) (h : HT) (hT : TK τ) (f l : Nat) (hfl : f ≤ l) (hl : l ≤ 300) (hm : h 102 10 = l) (hcd : f_codes h f l) : S_ mX12_undo (d + 1) 0 0 [.inr (some 81), .inl (f : Int)] τ h (Zv τ fun h' => h' = f_und h f l) := by
  refine S_go (k := 3) (ls := [some (.inr (some 81)), some (.inl (f : Int)), none, none, none]) (by decide) rfl (Nat.le_of_ble_eq_true rfl) rfl ?_
  refine G_sipush dX12_undo_0 (by decide) ?_
  refine G_iload_n (i := 1) dX12_undo_3 rfl rfl ?_
  refine G_iadd dX12_undo_4 ?_
  refine G_istore_n (i := 2) (ls' := [some (.inr (some 81)), some (.inl (f : Int)), some (.inl (3000 + (f : Int))), none, none]) dX12_undo_5 rfl (by decide) rfl ?_
  refine G_sipush dX12_undo_6 (by decide) ?_
  refine G_aload_n (i := 0) dX12_undo_9 rfl rfl ?_
  refine G_getR fX12_96 rfl dX12_undo_10 (o81 hT) (r81_28 hT) ?_
  refine G_bipush dX12_undo_13 (by decide) ?_
  refine G_iald (v := h 102 10) dX12_undo_15 (o102 hT) (by decide) rfl ?_
  refine G_iadd dX12_undo_16 ?_
  refine G_istore_n (i := 3) (ls' := [some (.inr (some 81)), some (.inl (f : Int)), some (.inl (3000 + (f : Int))), some (.inl (2999 + (h 102 10))), none]) dX12_undo_17 rfl (by decide) rfl ?_
  have := m_undo_L d τ h hT f l hfl hl hm hcd _ 0 (3000 + f) (2999 + l) (Nat.lt_succ_self _) rfl rfl (by omega)
  rw [f_un0] at this
  rw [show ((3000 + f : Nat) : Int) = 3000 + (f : Int) by omega, show ((2999 + l : Nat) : Int) = 2999 + h 102 10 by omega] at this
  exact this

theorem take_s {L : List Int} {f j : Nat} {x : Int} (hf : f ≤ j) (hx : L[j]? = some x) : (L.drop f).take (j + 1 - f) = (L.drop f).take (j - f) ++ [x] := by
  rw [show j + 1 - f = (j - f) + 1 by omega, List.take_succ, List.getElem?_drop, show f + (j - f) = j by omega, hx]
  rfl
theorem m_rep_L2 (d : Nat) (τ : TT) (hT : TK τ) (L0 : List Int) (f T q : Nat) (o : OT) (Z : ZT) (g0 : HT) (hpre : ∀ k : Nat, k < L0.length → o.1[k]? = L0[k]?) (ho : o.1.length ≤ 300) (hlo : L0.length ≤ o.1.length) (hf : f ≤ L0.length) (K : ∀ g1 : HT, OM g1 (o_ads o (L0.drop f)) → FRa g0 g1 → G_ mX12_repeat (d + 1) 0 0 11 [some (.inr (some 81)), some (.inl (f : Int)), some (.inl (T : Int)), some (.inl (L0.length : Int)), some (.inl ((q : Int) + 1)), none] [] τ g1 (Z)) : ∀ (n_ : Nat) (g : HT) (j : Nat), L0.length - j < n_ → f ≤ j → j ≤ L0.length → OM g (o_ads o ((L0.drop f).take (j - f))) → FRa g0 g → G_ mX12_repeat (d + 1) 0 0 27 [some (.inr (some 81)), some (.inl (f : Int)), some (.inl (T : Int)), some (.inl (L0.length : Int)), some (.inl (q : Int)), some (.inl (j : Int))] [] τ g (Z) := by
  intro n_
  induction n_ with
  | zero => intro g j hm_; exact absurd hm_ (Nat.not_lt_zero _)
  | succ n_ ih =>
    intro g j hm_ hj1 hj2 x fr
    refine G_iload dX12_repeat_27 rfl ?_
    refine G_iload_n (i := 3) dX12_repeat_29 rfl rfl ?_
    refine G_icmp_ge (tgt := 54) dX12_repeat_30 (by decide) (by omega) (by omega) (fun c_1 => ?_) (fun c_1 => ?_)
    · refine G_iinc (ls' := [some (.inr (some 81)), some (.inl (f : Int)), some (.inl (T : Int)), some (.inl (L0.length : Int)), some (.inl ((q : Int) + 1)), some (.inl (j : Int))]) dX12_repeat_54 (by decide) rfl rfl ?_
      refine G_goto (tgt := 11) dX12_repeat_57 (by decide) ?_
      refine G_lsub (ls' := [some (.inr (some 81)), some (.inl (f : Int)), some (.inl (T : Int)), some (.inl (L0.length : Int)), some (.inl ((q : Int) + 1)), none]) (LS_same (LS_same (LS_same (LS_same (LS_same (LS_none LS_nil)))))) ?_
      exact K g (by rw [show L0.drop f = (L0.drop f).take (j - f) from (List.take_of_length_le (by simp; omega)).symm]; exact x) fr
    · refine G_aload_n (i := 0) dX12_repeat_33 rfl rfl ?_
      refine G_aload_n (i := 0) dX12_repeat_34 rfl rfl ?_
      refine G_getR fX12_99 rfl dX12_repeat_35 (o81 hT) (r81_29 hT) ?_
      refine G_sipush dX12_repeat_38 (by decide) ?_
      refine G_iload dX12_repeat_41 rfl ?_
      refine G_iadd dX12_repeat_43 ?_
      refine G_iald (v := g 103 (3000 + j)) dX12_repeat_44 (o103 hT) (by omega) rfl ?_
      refine G_cVv (as := [.inl (g 103 (3000 + j))]) qX12_237 (m_add d τ g hT (o_ads o ((L0.drop f).take (j - f))) (g 103 (3000 + j)) x) rfl rfl (Nat.le_of_ble_eq_true rfl) (o81 hT) dX12_repeat_45 (fun g2 e2 => ?_)
      obtain ⟨om2, fr2⟩ := e2
      refine G_iinc (ls' := [some (.inr (some 81)), some (.inl (f : Int)), some (.inl (T : Int)), some (.inl (L0.length : Int)), some (.inl (q : Int)), some (.inl ((j : Int) + 1))]) dX12_repeat_48 (by decide) rfl rfl ?_
      refine G_goto (tgt := 27) dX12_repeat_51 (by decide) ?_
      have hlen := o_ads_len ((L0.drop f).take (j - f)) ho
      have v1 := x.2.2.1 j (by omega)
      rw [o_ads_pre _ ho (by omega), hpre j (by omega)] at v1
      exact ih g2 (j + 1) (by omega) (by omega) (by omega) (by rw [take_s (by omega) v1, o_ads_snoc]; exact om2) (fr.tr fr2)

theorem m_rep_L1 (d : Nat) (τ : TT) (hT : TK τ) (L0 : List Int) (f T : Nat) (hf : f ≤ L0.length) (hT9 : T ≤ 9) (hl3 : L0.length ≤ 300) : ∀ (n_ : Nat) (g : HT) (q : Nat) (o : OT), T - q < n_ → 1 ≤ q ∧ q ≤ T → OM g o → (∀ k : Nat, k < L0.length → o.1[k]? = L0[k]?) → L0.length ≤ o.1.length → G_ mX12_repeat (d + 1) 0 0 11 [some (.inr (some 81)), some (.inl (f : Int)), some (.inl (T : Int)), some (.inl (L0.length : Int)), some (.inl (q : Int)), none] [] τ g (Zv τ fun h' => OM h' (o_rep (L0.drop f) (T - q) o) ∧ FRa g h') := by
  intro n_
  induction n_ with
  | zero => intro g q o hm_; exact absurd hm_ (Nat.not_lt_zero _)
  | succ n_ ih =>
    intro g q o hm_ hq x hpre hlo
    have x4 := x.2.2.2
    have x5 : 0 ≤ g 81 32 ∧ g 81 32 ≤ 1 := by rw [x4]; split <;> omega
    refine G_iload dX12_repeat_11 rfl ?_
    refine G_iload_n (i := 2) dX12_repeat_13 rfl rfl ?_
    refine G_icmp_ge (tgt := 60) dX12_repeat_14 (by decide) (by omega) (by omega) (fun c_1 => ?_) (fun c_1 => ?_)
    · refine G_vretZ rfl dX12_repeat_60 ?_
      first | (rw [show T - q = 0 by omega]; exact ⟨x, FRa.rf⟩) | (have hq2 : o.2 = true := (Classical.em (o.2 = true)).elim id (fun z => by rw [if_neg z] at x4; omega); obtain ⟨n, hn⟩ : ∃ n, T - q = n + 1 := ⟨T - q - 1, by omega⟩; rw [hn]; refine ⟨?_, FRa.rf⟩; show OM g (if o.2 = true then o else _); rw [if_pos hq2]; exact x)
    · refine G_aload_n (i := 0) dX12_repeat_17 rfl rfl ?_
      refine G_getI (v := g 81 32) fX12_108 rfl dX12_repeat_18 (o81 hT) rfl ?_
      refine G_if_ne (tgt := 60) dX12_repeat_21 (by decide) (by omega) (fun c_2 => ?_) (fun c_2 => ?_)
      · refine G_vretZ rfl dX12_repeat_60 ?_
        first | (rw [show T - q = 0 by omega]; exact ⟨x, FRa.rf⟩) | (have hq2 : o.2 = true := (Classical.em (o.2 = true)).elim id (fun z => by rw [if_neg z] at x4; omega); obtain ⟨n, hn⟩ : ∃ n, T - q = n + 1 := ⟨T - q - 1, by omega⟩; rw [hn]; refine ⟨?_, FRa.rf⟩; show OM g (if o.2 = true then o else _); rw [if_pos hq2]; exact x)
      · refine G_iload_n (i := 1) dX12_repeat_24 rfl rfl ?_
        refine G_istore (ls' := [some (.inr (some 81)), some (.inl (f : Int)), some (.inl (T : Int)), some (.inl (L0.length : Int)), some (.inl (q : Int)), some (.inl (f : Int))]) dX12_repeat_25 (by decide) rfl ?_
        have hlen := o_ads_len (L0.drop f) x.2.1
        have hq2 : o.2 ≠ true := by have := x.2.2.2; intro z; rw [z, if_pos rfl] at this; omega
        have e9 : T - q = (T - (q + 1)) + 1 := by omega
        have := m_rep_L2 d τ hT L0 f T q o (Zv τ fun h' => OM h' (o_rep (L0.drop f) (T - q) o) ∧ FRa g h') g hpre x.2.1 hlo hf (fun g1 om1 fr1 => ?_) _ g f (Nat.lt_succ_self _) (Nat.le_refl _) hf (by rw [Nat.sub_self]; exact x) FRa.rf
        · exact this
        · refine G_mono ?_ (ih g1 (q + 1) (o_ads o (L0.drop f)) (by omega) (by omega) om1 (fun k hk => (o_ads_pre _ x.2.1 (by omega)).trans (hpre k hk)) (by omega))
          rintro r τ' h' ⟨q1, q2, q3, q4⟩
          refine ⟨q1, q2, ?_, fr1.tr q4⟩
          rw [e9]; show OM h' (if o.2 = true then o else _); rw [if_neg hq2]; exact q3

theorem m_repeat (d : Nat) (τ : TT) (h : HT) (hT : TK τ) (o : OT) (f T : Nat) (x : OM h o) (hf : f ≤ o.1.length) (hT9 : 1 ≤ T ∧ T ≤ 9) : S_ mX12_repeat (d + 1) 0 0 [.inr (some 81), .inl (f : Int), .inl (T : Int)] τ h (Zv τ fun h' => OM h' (o_rep (o.1.drop f) (T - 1) o) ∧ FRa h h') := by
  refine S_go (k := 3) (ls := [some (.inr (some 81)), some (.inl (f : Int)), some (.inl (T : Int)), none, none, none]) (by decide) rfl (Nat.le_of_ble_eq_true rfl) rfl ?_
  refine G_aload_n (i := 0) dX12_repeat_0 rfl rfl ?_
  refine G_getR fX12_96 rfl dX12_repeat_1 (o81 hT) (r81_28 hT) ?_
  refine G_bipush dX12_repeat_4 (by decide) ?_
  refine G_iald (v := h 102 10) dX12_repeat_6 (o102 hT) (by decide) rfl ?_
  refine G_istore_n (i := 3) (ls' := [some (.inr (some 81)), some (.inl (f : Int)), some (.inl (T : Int)), some (.inl (h 102 10)), none, none]) dX12_repeat_7 rfl (by decide) rfl ?_
  refine G_iconst dX12_repeat_8 ?_
  refine G_istore (ls' := [some (.inr (some 81)), some (.inl (f : Int)), some (.inl (T : Int)), some (.inl (h 102 10)), some (.inl 1), none]) dX12_repeat_9 (by decide) rfl ?_
  have := m_rep_L1 d τ hT o.1 f T hf hT9.2 x.2.1 _ h 1 o (Nat.lt_succ_self _) (by omega) x (fun k hk => rfl) (Nat.le_refl _)
  rw [x.1]
  exact this

/-- kept by reads -/
def FRp (h h' : HT) : Prop := ∀ a i : Nat, a ≠ 105 → a ≠ 106 → (a = 103 → i < 3000) → (a = 102 → i ≠ 10) → (a = 81 → i ≠ 32 ∧ i ≠ 31) → h' a i = h a i
theorem FRp.rf {h : HT} : FRp h h := fun _ _ _ _ _ _ _ => rfl
theorem FRp.tr {h h1 h2 : HT} (x : FRp h h1) (y : FRp h1 h2) : FRp h h2 := fun a i p q r s t => (y a i p q r s t).trans (x a i p q r s t)
theorem FRa.p {h h' : HT} (x : FRa h h') : FRp h h' := fun a i _ _ r s t => x a i r s (fun z => (t z).1)
theorem FRp_31 {h : HT} {v : Int} : FRp h (hs_ h 81 31 v) := fun a i _ _ _ _ t => if_neg fun z => (t z.1).2 z.2
theorem FRp_105 {h : HT} {k : Nat} {v : Int} : FRp h (hs_ h 105 k v) := fun a i p _ _ _ _ => hs_na p
theorem FRp_106 {h : HT} {k : Nat} {v : Int} : FRp h (hs_ h 106 k v) := fun a i _ p _ _ _ => hs_na p
/-- the rows of the reader while it stands ahead of byte i -/
def PST (g : HT) (i : Nat) (stk : List Nat) (ah : Bool) (o : OT) : Prop := g 81 31 = i ∧ OM g o ∧ stk.length ≤ 4 ∧ (∀ j : Nat, j < stk.length → g 105 (stk.length - j) = ((stk.getD j 0 : Nat) : Int)) ∧ (∀ s ∈ stk, s ≤ o.1.length) ∧ (∀ j : Nat, j ≤ stk.length → 0 ≤ g 106 j ∧ g 106 j ≤ i) ∧ (0 < g 106 stk.length ↔ ah = true)
/-- the same behind an item, ahead of the counting -/
def PSU (g : HT) (i : Nat) (stk : List Nat) (nw : Bool) (o : OT) : Prop := g 81 31 = i ∧ OM g o ∧ stk.length ≤ 4 ∧ (∀ j : Nat, j < stk.length → g 105 (stk.length - j) = ((stk.getD j 0 : Nat) : Int)) ∧ (∀ s ∈ stk, s ≤ o.1.length) ∧ (∀ j : Nat, j < stk.length → 0 ≤ g 106 j ∧ g 106 j ≤ i) ∧ (if nw = true then g 106 stk.length = -1 else 0 ≤ g 106 stk.length ∧ g 106 stk.length ≤ i)
theorem OM_o {g : HT} {o : OT} {a k : Nat} {v : Int} (x : OM g o) (ha : a = 105 ∨ a = 106 ∨ (a = 81 ∧ k = 31)) : OM (hs_ g a k v) o := by
  have e : ∀ b j, (b = 102 ∨ b = 103 ∨ (b = 81 ∧ j = 32)) → hs_ g a k v b j = g b j := fun b j hb => if_neg (by omega)
  obtain ⟨x1, x2, x3, x4⟩ := x
  exact ⟨by rw [e _ _ (by omega)]; exact x1, x2, fun i hi => by rw [e _ _ (by omega)]; exact x3 i hi, by rw [e _ _ (by omega)]; exact x4⟩
theorem PSU.next {g : HT} {i : Nat} {stk : List Nat} {nw : Bool} {o : OT} (x : PSU g i stk nw o) : PST (hs_ (hs_ g 106 stk.length (g 106 stk.length + 1)) 81 31 (g 81 31 + 1)) (i + 1) stk (!nw) o := by
  obtain ⟨x1, x2, x3, x4, x5, x6, x7⟩ := x
  refine ⟨by rw [hs_eq, x1]; rfl, OM_o (OM_o x2 (by omega)) (by omega), x3, fun j hj => by rw [hs_na (by decide), hs_na (by decide)]; exact x4 j hj, x5, fun j hj => ?_, ?_⟩
  · rw [hs_na (by decide)]
    by_cases hq : j = stk.length
    · subst hq
      rw [hs_eq]
      cases nw <;> simp at x7 <;> omega
    · rw [hs_ni hq]; have := x6 j (by omega); omega
  · rw [hs_na (by decide), hs_eq]
    cases nw <;> simp at x7 ⊢ <;> omega
theorem PST.u {g : HT} {i : Nat} {stk : List Nat} {ah : Bool} {o : OT} (x : PST g i stk ah o) : PSU g i stk false o := ⟨x.1, x.2.1, x.2.2.1, x.2.2.2.1, x.2.2.2.2.1, fun j hj => x.2.2.2.2.2.1 j (by omega), x.2.2.2.2.2.1 _ (Nat.le_refl _)⟩
/-- what was read grew; nothing else moved -/
theorem PSU.grow {g g' : HT} {i : Nat} {stk : List Nat} {nw : Bool} {o o' : OT} (x : PSU g i stk nw o) (om : OM g' o') (fr : FRa g g') (hl : o.1.length ≤ o'.1.length) : PSU g' i stk nw o' := by
  have e5 : ∀ j, g' 105 j = g 105 j := fun j => fr 105 j (by omega) (by omega) (by omega)
  have e6 : ∀ j, g' 106 j = g 106 j := fun j => fr 106 j (by omega) (by omega) (by omega)
  have e1 : g' 81 31 = g 81 31 := fr 81 31 (by decide) (by decide) (by decide)
  obtain ⟨x1, x2, x3, x4, x5, x6, x7⟩ := x
  exact ⟨by rw [e1]; exact x1, om, x3, fun j hj => by rw [e5]; exact x4 j hj, fun s hs => Nat.le_trans (x5 s hs) hl, fun j hj => by rw [e6]; exact x6 j hj, by rw [e6]; exact x7⟩
theorem PST.step {g : HT} {i : Nat} {stk : List Nat} {ah : Bool} {o : OT} (x : PST g i stk ah o) : PST (hs_ g 81 31 (g 81 31 + 1)) (i + 1) stk ah o := by
  obtain ⟨x1, x2, x3, x4, x5, x6, x7⟩ := x
  exact ⟨by rw [hs_eq, x1]; rfl, OM_o x2 (by omega), x3, fun j hj => by rw [hs_na (by decide)]; exact x4 j hj, x5, fun j hj => by rw [hs_na (by decide)]; have := x6 j hj; omega, by rw [hs_na (by decide)]; exact x7⟩
theorem PST.opn {g : HT} {i : Nat} {stk : List Nat} {ah : Bool} {o : OT} (x : PST g i stk ah o) (h4 : stk.length < 4) : PSU (hs_ (hs_ g 105 (stk.length + 1) (g 102 10)) 106 (stk.length + 1) (-1)) i (o.1.length :: stk) true o := by
  obtain ⟨x1, x2, x3, x4, x5, x6, x7⟩ := x
  refine ⟨by rw [hs_na (by decide), hs_na (by decide)]; exact x1, OM_o (OM_o x2 (by omega)) (by omega), by simp; omega, fun j hj => ?_, fun s hs => ?_, fun j hj => ?_, ?_⟩
  · rw [hs_na (by decide)]
    simp only [List.length_cons] at hj ⊢
    match j with
    | 0 => rw [Nat.sub_zero, hs_eq, x2.1]; rfl
    | j + 1 =>
      rw [hs_ni (by omega), show stk.length + 1 - (j + 1) = stk.length - j by omega]
      exact x4 j (by omega)
  · rcases List.mem_cons.mp hs with z | z
    · rw [z]; exact Nat.le_refl _
    · exact x5 s z
  · simp only [List.length_cons] at hj
    rw [hs_ni (by omega), hs_na (by decide)]; exact x6 j (by omega)
  · simp only [List.length_cons, if_true]; rw [hs_eq]
theorem PST.pop {g : HT} {i s : Nat} {stk : List Nat} {ah : Bool} {o o' : OT} {g' : HT} (x : PST g i (s :: stk) ah o) (om : OM g' o') (fr : FRa g g') (hl : o.1.length ≤ o'.1.length) : PSU g' i stk false o' := by
  have e5 : ∀ j, g' 105 j = g 105 j := fun j => fr 105 j (by omega) (by omega) (by omega)
  have e6 : ∀ j, g' 106 j = g 106 j := fun j => fr 106 j (by omega) (by omega) (by omega)
  have e1 : g' 81 31 = g 81 31 := fr 81 31 (by decide) (by decide) (by decide)
  obtain ⟨x1, x2, x3, x4, x5, x6, x7⟩ := x
  simp only [List.length_cons] at x3 x4 x6
  refine ⟨by rw [e1]; exact x1, om, by omega, fun j hj => ?_, fun s hs => Nat.le_trans (x5 s (List.mem_cons_of_mem _ hs)) hl, fun j hj => by rw [e6]; exact x6 j (by omega), by rw [e6]; exact x6 _ (by omega)⟩
  have := x4 (j + 1) (by omega)
  rw [show stk.length + 1 - (j + 1) = stk.length - j by omega] at this
  rw [e5, this]; rfl
theorem PST.top {g : HT} {i s : Nat} {stk : List Nat} {ah : Bool} {o : OT} (x : PST g i (s :: stk) ah o) : g 105 (stk.length + 1) = (s : Int) ∧ s ≤ o.1.length := ⟨x.2.2.2.1 0 (by simp), x.2.2.2.2.1 s List.mem_cons_self⟩
theorem nx1 {g : HT} {i : Nat} (h1 : g 81 31 = i) (h2 : (i : Int) < g 81 27) : f_nx g = g 104 i := by
  unfold f_nx; rw [h1, if_pos h2]; rfl
theorem nx2 {g : HT} {i : Nat} (h1 : g 81 31 = i) : f_nx (hs_ g 81 31 (g 81 31 + 1)) = if (i : Int) + 1 < g 81 27 then g 104 (i + 1) else -1 := by
  unfold f_nx; rw [hs_eq, hs_ni (by decide), hs_na (by decide), h1]; rfl
def figL (h : HT) (f : Nat) : List Int := (List.range (h 102 f).toNat).map (fun k => h 103 (300 * f + k))
theorem figL_at {h : HT} {f k : Nat} (hk : k < (h 102 f).toNat) : (figL h f)[k]? = some (h 103 (300 * f + k)) := by simp [figL, hk]
theorem figL_len {h : HT} {f : Nat} : (figL h f).length = (h 102 f).toNat := by simp [figL]
abbrev PR (h : HT) (n i : Nat) (stk : List Nat) (ah : Bool) (o : OT) : Int × OT := p_run (h 104) (h 81 27).toNat (figL h) (h 81 26).toNat n i stk ah o
def p_res (h : HT) (r : Int × OT) (v : Int) (h' : HT) : Prop := (r.1 = -1 → v = 1) ∧ (r.1 ≠ -1 → v = 0 ∧ h' 81 31 = r.1) ∧ OM h' r.2 ∧ FRp h h'
theorem f_okc_r {s : Int} (q : f_okc s) : -2147483648 ≤ s ∧ s ≤ 2147483647 := by
  unfold f_okc at q; omega
theorem S_mono {M : MT} {d bc bs : Nat} {as : List AV} {τ : TT} {h : HT} {Z Z' : ZT} (hz : ∀ r τ' h', Z r τ' h' → Z' r τ' h') (x : S_ M d bc bs as τ h Z) : S_ M d bc bs as τ h Z' := by
  intro l B p e ha hc hk s m args below hf hfit hP hK
  obtain ⟨t, o, h1, h2, h3, ⟨⟨r, τ', h', q1, q2, q3⟩, q4⟩, h5⟩ := x l B p e ha hc hk s m args below hf hfit hP hK
  exact ⟨t, o, h1, h2, h3, ⟨⟨r, τ', h', q1, hz r τ' h' q2, q3⟩, q4⟩, h5⟩
theorem m_repeat' (d : Nat) (τ : TT) (h : HT) (hT : TK τ) (o : OT) (F T : Int) (f t : Nat) (x : OM h o) (hf : f ≤ o.1.length) (hT9 : 1 ≤ t ∧ t ≤ 9) (eF : F = (f : Int)) (eT : T = (t : Int)) : S_ mX12_repeat (d + 1) 0 0 [.inr (some 81), .inl F, .inl T] τ h (Zv τ fun h' => OM h' (o_rep (o.1.drop f) (t - 1) o) ∧ FRa h h') := by
  subst eF; subst eT; exact m_repeat d τ h hT o f t x hf hT9
theorem m_undo' (d : Nat) (τ : TT) (h : HT) (hT : TK τ) (o : OT) (F : Int) (f : Nat) (x : OM h o) (hf : f ≤ o.1.length) (hok : ∀ s ∈ o.1, f_okc s) (eF : F = (f : Int)) : S_ mX12_undo (d + 1) 0 0 [.inr (some 81), .inl F] τ h (Zv τ fun h' => OM h' (o_und o.1 f, o.2) ∧ FRa h h') := by
  subst eF
  have hcd : f_codes h f o.1.length := fun k _ hk => f_okc_r (hok _ (List.mem_of_getElem? (x.2.2.1 k hk)))
  exact S_mono (fun r τ' h' q => ⟨q.1, q.2.1, by rw [q.2.2]; exact OM_und x hf⟩) (m_undo d τ h hT f o.1.length hf x.2.1 x.1 hcd)
