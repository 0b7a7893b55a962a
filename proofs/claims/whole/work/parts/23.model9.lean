/-! the reference: dancing a figure, feeding -/
theorem f_passW_o {h : HT} {p q a b w : Int} {c k : Nat} (hc : c ≠ 85 ∧ c ≠ 86 ∧ c ≠ 88 ∧ c ≠ 93 ∧ c ≠ 94 ∧ ¬ (c = 81 ∧ k = 14)) : f_passW h p q a b w c k = h c k := by
  obtain ⟨a1, a2, a3, a4, a5, a6⟩ := hc
  unfold f_passW
  rw [show ∀ (X : HT) v, hs_ X 81 14 v c k = X c k from fun X v => if_neg a6, hs_na a4, hs_na a5, hs_na a1, hs_na a1, hs_na a2, hs_na a2, hs_na a3, hs_na a3]
abbrev f_kept (c k : Nat) : Prop := c ≠ 85 ∧ c ≠ 86 ∧ c ≠ 88 ∧ c ≠ 93 ∧ c ≠ 94 ∧ c ≠ 95 ∧ c ≠ 96 ∧ ¬ (c = 81 ∧ (k = 14 ∨ k = 15))
theorem f_pass_o {h : HT} {p w : Int} {c k : Nat} (hc : f_kept c k) : (f_pass h p w).2 c k = h c k := by
  obtain ⟨a1, a2, a3, a4, a5, a6, a7, a8⟩ := hc
  have e : ∀ q a b, f_passW h p q a b w c k = h c k := fun q a b => f_passW_o ⟨a1, a2, a3, a4, a5, fun z => a8 ⟨z.1, Or.inl z.2⟩⟩
  unfold f_pass
  generalize (if w = 0 then h 86 p.toNat else h 86 (f_aft (h 81 1) p).toNat) = A
  generalize (if w = 0 then h 86 (f_aft (h 81 1) p).toNat else h 86 p.toNat) = B
  repeat (first | rfl | exact e _ _ _ | (apply (apply_ite (fun z : Int × HT => z.2 c k) _ _ _).trans; split))
theorem f_walk_o {h : HT} {w : Int} {c k : Nat} (hc : f_kept c k) : (f_walk h w).2 c k = h c k := by
  unfold f_walk
  repeat (first | rfl | exact f_walkW_o hc | (apply (apply_ite (fun z : Int × HT => z.2 c k) _ _ _).trans; split))
def f_stp (h : HT) (s : Int) : Int × HT := if 100 ≤ s then f_walk h (s - 100) else f_pass h (s.tdiv 10) (s.tmod 10)
theorem f_stp_o {h : HT} {s : Int} {c k : Nat} (hc : f_kept c k) : (f_stp h s).2 c k = h c k := by
  unfold f_stp; split
  · exact f_walk_o hc
  · exact f_pass_o hc
theorem MI_stp {h : HT} (x : MI h) (s : Int) : MI (f_stp h s).2 := by
  unfold f_stp; split
  · exact MI_walk x _
  · exact MI_pass x _ _
def f_dn (f : Nat) : Nat → HT → Nat → Int × HT
  | 0, h, k => (k, h)
  | n + 1, h, k => if 0 < (f_stp h (h 103 (300 * f + k))).1 then f_dn f n (f_stp h (h 103 (300 * f + k))).2 (k + 1) else (k, (f_stp h (h 103 (300 * f + k))).2)
theorem f_dn_1 {f n : Nat} {h : HT} {k : Nat} (q : 0 < (f_stp h (h 103 (300 * f + k))).1) : f_dn f (n + 1) h k = f_dn f n (f_stp h (h 103 (300 * f + k))).2 (k + 1) := if_pos q
theorem f_dn_0 {f n : Nat} {h : HT} {k : Nat} (q : ¬ 0 < (f_stp h (h 103 (300 * f + k))).1) : f_dn f (n + 1) h k = ((k : Int), (f_stp h (h 103 (300 * f + k))).2) := if_neg q
def f_dance (h : HT) (f : Int) : Int × HT := if ¬ (0 ≤ f ∧ f ≤ h 81 26 - 1) then (-1, h) else if h 81 11 = 0 then (-3, h) else f_dn f.toNat (h 102 f.toNat).toNat h 0
theorem f_pass_r {h : HT} (x : MI h) {p w : Int} : -4 ≤ (f_pass h p w).1 ∧ (f_pass h p w).1 ≤ 301 := by
  have := x.s_
  unfold f_pass
  repeat (first | (constructor <;> (first | decide | omega)) | (show -4 ≤ (ite _ _ _ : Int × HT).1 ∧ (ite _ _ _ : Int × HT).1 ≤ 301; split))
theorem f_walk_r {h : HT} (x : MI h) {w : Int} : -4 ≤ (f_walk h w).1 ∧ (f_walk h w).1 ≤ 301 := by
  have := x.s_
  unfold f_walk
  repeat (first | (constructor <;> (first | decide | omega)) | (show -4 ≤ (ite _ _ _ : Int × HT).1 ∧ (ite _ _ _ : Int × HT).1 ≤ 301; split))
theorem f_okc_d {s : Int} (q : f_okc s) (h : s < 100) : 0 ≤ s ∧ 0 ≤ s.tdiv 10 ∧ s.tdiv 10 ≤ 9 ∧ 0 ≤ s.tmod 10 ∧ s.tmod 10 ≤ 9 := by
  rcases q with q | q | q
  · rw [Int.tdiv_eq_ediv_of_nonneg q.1, Int.tmod_eq_emod_of_nonneg q.1]; omega
  · omega
  · omega
theorem kp {c k : Nat} (h : c ≠ 85 ∧ c ≠ 86 ∧ c ≠ 88 ∧ c ≠ 93 ∧ c ≠ 94 ∧ c ≠ 95 ∧ c ≠ 96 ∧ c ≠ 81) : f_kept c k := ⟨h.1, h.2.1, h.2.2.1, h.2.2.2.1, h.2.2.2.2.1, h.2.2.2.2.2.1, h.2.2.2.2.2.2.1, fun q => h.2.2.2.2.2.2.2 q.1⟩
theorem m_dance_L (d : Nat) (τ : TT) (hT : TK τ) (f : Nat) : ∀ (n_ : Nat) (g : HT) (k : Nat), (g 102 f).toNat - k < n_ → MI g → (k : Int) ≤ g 102 f → (f : Int) < g 81 26 → G_ mX12_dance (d + 3) 0 0 24 [some (.inr (some 81)), some (.inl (f : Int)), some (.inl (k : Int)), some (.inl 1), none] [] τ g (Zi τ fun v h' => v = (f_dn f ((g 102 f).toNat - k) g k).1 ∧ h' = (f_dn f ((g 102 f).toNat - k) g k).2) := by
  intro n_
  induction n_ with
  | zero => intro g k hm_; exact absurd hm_ (Nat.not_lt_zero _)
  | succ n_ ih =>
    intro g k hm_ x hk hf2
    have hm := x.ma_ f hf2
    have hf10 := x.f_
    refine G_iload_n (i := 3) dX12_dance_24 rfl rfl ?_
    refine G_if_eq (tgt := 109) dX12_dance_25 (by decide) (by decide) (fun q => absurd q (by decide)) (fun _ => ?_)
    refine G_iload_n (i := 2) dX12_dance_28 rfl rfl ?_
    refine G_aload_n (i := 0) dX12_dance_29 rfl rfl ?_
    refine G_getR fX12_96 rfl dX12_dance_30 (o81 hT) (r81_28 hT) ?_
    refine G_iload_n (i := 1) dX12_dance_33 rfl rfl ?_
    refine G_iald (v := g 102 f) dX12_dance_34 (o102 hT) (by omega) rfl ?_
    refine G_icmp_ge (tgt := 109) dX12_dance_35 (by decide) (by omega) (by omega) (fun c_1 => ?_) (fun c_1 => ?_)
    · refine G_iload_n (i := 2) dX12_dance_109 rfl rfl ?_
      refine G_iretZ rfl dX12_dance_110 ?_
      rw [show (g 102 f).toNat - k = 0 by omega]
      exact ⟨rfl, rfl⟩
    · refine G_aload_n (i := 0) dX12_dance_38 rfl rfl ?_
      refine G_getR fX12_99 rfl dX12_dance_39 (o81 hT) (r81_29 hT) ?_
      refine G_sipush dX12_dance_42 (by decide) ?_
      refine G_iload_n (i := 1) dX12_dance_45 rfl rfl ?_
      refine G_imul dX12_dance_46 ?_
      refine G_iload_n (i := 2) dX12_dance_47 rfl rfl ?_
      refine G_iadd dX12_dance_48 ?_
      refine G_iald (v := g 103 ((300 * f) + k)) dX12_dance_49 (o103 hT) (by omega) rfl ?_
      have ok := x.to_ f k hf2 (by omega)
      have oo := ok
      unfold f_okc at oo
      refine G_istore (ls' := [some (.inr (some 81)), some (.inl (f : Int)), some (.inl (k : Int)), some (.inl 1), some (.inl (g 103 ((300 * f) + k)))]) dX12_dance_50 (by decide) rfl ?_
      refine G_iload dX12_dance_52 rfl ?_
      refine G_bipush dX12_dance_54 (by decide) ?_
      refine G_icmp_lt (tgt := 71) dX12_dance_56 (by decide) (by omega) (by decide) (fun c_2 => ?_) (fun c_2 => ?_)
      · refine G_aload_n (i := 0) dX12_dance_71 rfl rfl ?_
        refine G_iload dX12_dance_72 rfl ?_
        refine G_bipush dX12_dance_74 (by decide) ?_
        have dd := f_okc_d ok (by omega)
        refine G_idiv dX12_dance_76 (by omega) (by decide) ?_
        refine G_iload dX12_dance_77 rfl ?_
        refine G_bipush dX12_dance_79 (by decide) ?_
        refine G_irem dX12_dance_81 (by omega) (by decide) ?_
        refine G_cVi (as := [.inl ((g 103 ((300 * f) + k)).tdiv 10), .inl ((g 103 ((300 * f) + k)).tmod 10)]) qX12_261 (m_pass d τ g hT ((g 103 ((300 * f) + k)).tdiv 10) ((g 103 ((300 * f) + k)).tmod 10) (by omega) (by omega) x.n9 x.d1 x.s_ x.ha_ x.le_) rfl rfl (Nat.le_of_ble_eq_true rfl) (o81 hT) dX12_dance_82 (fun v' h' e' => ?_)
        obtain ⟨rfl, rfl⟩ := e'
        have rr := f_pass_r x (p := (g 103 (300 * f + k)).tdiv 10) (w := (g 103 (300 * f + k)).tmod 10)
        refine G_if_le (tgt := 92) dX12_dance_85 (by decide) (by omega) (fun c_3 => ?_) (fun c_3 => ?_)
        · refine G_iconst dX12_dance_92 ?_
          refine G_istore_n (i := 3) (ls' := [some (.inr (some 81)), some (.inl (f : Int)), some (.inl (k : Int)), some (.inl 0), some (.inl (g 103 ((300 * f) + k)))]) dX12_dance_93 rfl (by decide) rfl ?_
          refine G_iload_n (i := 2) dX12_dance_94 rfl rfl ?_
          refine G_iload_n (i := 3) dX12_dance_95 rfl rfl ?_
          refine G_if_eq (tgt := 103) dX12_dance_96 (by decide) (by decide) (fun _ => ?_) (fun q => absurd q (by decide))
          refine G_iconst dX12_dance_103 ?_
          refine G_iadd dX12_dance_104 ?_
          refine G_istore_n (i := 2) (ls' := [some (.inr (some 81)), some (.inl (f : Int)), some (.inl ((k : Int) + 0)), some (.inl 0), some (.inl (g 103 ((300 * f) + k)))]) dX12_dance_105 rfl (by decide) rfl ?_
          refine G_goto (tgt := 24) dX12_dance_106 (by decide) ?_
          refine G_iload_n (i := 3) dX12_dance_24 rfl rfl ?_
          refine G_if_eq (tgt := 109) dX12_dance_25 (by decide) (by decide) (fun _ => ?_) (fun q => absurd q (by decide))
          refine G_iload_n (i := 2) dX12_dance_109 rfl rfl ?_
          refine G_iretZ rfl dX12_dance_110 ?_
          have e9 : (g 102 f).toNat - k = ((g 102 f).toNat - (k + 1)) + 1 := by omega
          have e8 := (show f_stp g (g 103 (300 * f + k)) = f_pass g ((g 103 (300 * f + k)).tdiv 10) ((g 103 (300 * f + k)).tmod 10) from if_neg (by omega))
          rw [e9, f_dn_0 (by rw [e8]; omega), e8]
          exact ⟨by omega, rfl⟩
        · refine G_iconst dX12_dance_88 ?_
          refine G_goto (tgt := 93) dX12_dance_89 (by decide) ?_
          refine G_istore_n (i := 3) (ls' := [some (.inr (some 81)), some (.inl (f : Int)), some (.inl (k : Int)), some (.inl 1), some (.inl (g 103 ((300 * f) + k)))]) dX12_dance_93 rfl (by decide) rfl ?_
          refine G_iload_n (i := 2) dX12_dance_94 rfl rfl ?_
          refine G_iload_n (i := 3) dX12_dance_95 rfl rfl ?_
          refine G_if_eq (tgt := 103) dX12_dance_96 (by decide) (by decide) (fun q => absurd q (by decide)) (fun _ => ?_)
          refine G_iconst dX12_dance_99 ?_
          refine G_goto (tgt := 104) dX12_dance_100 (by decide) ?_
          refine G_iadd dX12_dance_104 ?_
          refine G_istore_n (i := 2) (ls' := [some (.inr (some 81)), some (.inl (f : Int)), some (.inl ((k : Int) + 1)), some (.inl 1), some (.inl (g 103 ((300 * f) + k)))]) dX12_dance_105 rfl (by decide) rfl ?_
          refine G_goto (tgt := 24) dX12_dance_106 (by decide) ?_
          refine G_lsub (ls' := [some (.inr (some 81)), some (.inl (f : Int)), some (.inl ((k : Int) + 1)), some (.inl 1), none]) (LS_same (LS_same (LS_same (LS_same (LS_none LS_nil))))) ?_
          have o1 : (f_pass g ((g 103 ((300 * f) + k)).tdiv 10) ((g 103 ((300 * f) + k)).tmod 10)).2 102 f = g 102 f := f_pass_o (kp (by decide))
          have o2 : (f_pass g ((g 103 ((300 * f) + k)).tdiv 10) ((g 103 ((300 * f) + k)).tmod 10)).2 81 26 = g 81 26 := f_pass_o (by decide)
          have := ih ((f_pass g ((g 103 ((300 * f) + k)).tdiv 10) ((g 103 ((300 * f) + k)).tmod 10)).2) (k + 1) (by rw [o1]; omega) (MI_pass x _ _) (by rw [o1]; omega) (by rw [o2]; exact hf2)
          rw [o1] at this
          refine G_mono ?_ this
          rintro r τ' h' ⟨q1, v, q2, rfl, rfl⟩
          have e9 : (g 102 f).toNat - k = ((g 102 f).toNat - (k + 1)) + 1 := by omega
          refine ⟨q1, _, q2, ?_⟩
          have e8 := (show f_stp g (g 103 (300 * f + k)) = f_pass g ((g 103 (300 * f + k)).tdiv 10) ((g 103 (300 * f + k)).tmod 10) from if_neg (by omega))
          rw [e9, f_dn_1 (by rw [e8]; omega), e8]
          exact ⟨rfl, rfl⟩
      · refine G_aload_n (i := 0) dX12_dance_59 rfl rfl ?_
        refine G_iload dX12_dance_60 rfl ?_
        refine G_bipush dX12_dance_62 (by decide) ?_
        refine G_isub dX12_dance_64 ?_
        refine G_cVi (as := [.inl ((g 103 ((300 * f) + k)) - 100)]) qX12_258 (m_walk (d + 1) τ g hT ((g 103 ((300 * f) + k)) - 100) (by omega) x.d1 x.d3 x.r_ x.s_ x.le_) rfl rfl (Nat.le_of_ble_eq_true rfl) (o81 hT) dX12_dance_65 (fun v' h' e' => ?_)
        obtain ⟨rfl, rfl⟩ := e'
        have rr := f_walk_r x (w := (g 103 (300 * f + k)) - 100)
        refine G_goto (tgt := 85) dX12_dance_68 (by decide) ?_
        refine G_if_le (tgt := 92) dX12_dance_85 (by decide) (by omega) (fun c_4 => ?_) (fun c_4 => ?_)
        · refine G_iconst dX12_dance_92 ?_
          refine G_istore_n (i := 3) (ls' := [some (.inr (some 81)), some (.inl (f : Int)), some (.inl (k : Int)), some (.inl 0), some (.inl (g 103 ((300 * f) + k)))]) dX12_dance_93 rfl (by decide) rfl ?_
          refine G_iload_n (i := 2) dX12_dance_94 rfl rfl ?_
          refine G_iload_n (i := 3) dX12_dance_95 rfl rfl ?_
          refine G_if_eq (tgt := 103) dX12_dance_96 (by decide) (by decide) (fun _ => ?_) (fun q => absurd q (by decide))
          refine G_iconst dX12_dance_103 ?_
          refine G_iadd dX12_dance_104 ?_
          refine G_istore_n (i := 2) (ls' := [some (.inr (some 81)), some (.inl (f : Int)), some (.inl ((k : Int) + 0)), some (.inl 0), some (.inl (g 103 ((300 * f) + k)))]) dX12_dance_105 rfl (by decide) rfl ?_
          refine G_goto (tgt := 24) dX12_dance_106 (by decide) ?_
          refine G_iload_n (i := 3) dX12_dance_24 rfl rfl ?_
          refine G_if_eq (tgt := 109) dX12_dance_25 (by decide) (by decide) (fun _ => ?_) (fun q => absurd q (by decide))
          refine G_iload_n (i := 2) dX12_dance_109 rfl rfl ?_
          refine G_iretZ rfl dX12_dance_110 ?_
          have e9 : (g 102 f).toNat - k = ((g 102 f).toNat - (k + 1)) + 1 := by omega
          have e8 := (show f_stp g (g 103 (300 * f + k)) = f_walk g ((g 103 (300 * f + k)) - 100) from if_pos (by omega))
          rw [e9, f_dn_0 (by rw [e8]; omega), e8]
          exact ⟨by omega, rfl⟩
        · refine G_iconst dX12_dance_88 ?_
          refine G_goto (tgt := 93) dX12_dance_89 (by decide) ?_
          refine G_istore_n (i := 3) (ls' := [some (.inr (some 81)), some (.inl (f : Int)), some (.inl (k : Int)), some (.inl 1), some (.inl (g 103 ((300 * f) + k)))]) dX12_dance_93 rfl (by decide) rfl ?_
          refine G_iload_n (i := 2) dX12_dance_94 rfl rfl ?_
          refine G_iload_n (i := 3) dX12_dance_95 rfl rfl ?_
          refine G_if_eq (tgt := 103) dX12_dance_96 (by decide) (by decide) (fun q => absurd q (by decide)) (fun _ => ?_)
          refine G_iconst dX12_dance_99 ?_
          refine G_goto (tgt := 104) dX12_dance_100 (by decide) ?_
          refine G_iadd dX12_dance_104 ?_
          refine G_istore_n (i := 2) (ls' := [some (.inr (some 81)), some (.inl (f : Int)), some (.inl ((k : Int) + 1)), some (.inl 1), some (.inl (g 103 ((300 * f) + k)))]) dX12_dance_105 rfl (by decide) rfl ?_
          refine G_goto (tgt := 24) dX12_dance_106 (by decide) ?_
          refine G_lsub (ls' := [some (.inr (some 81)), some (.inl (f : Int)), some (.inl ((k : Int) + 1)), some (.inl 1), none]) (LS_same (LS_same (LS_same (LS_same (LS_none LS_nil))))) ?_
          have o1 : (f_walk g ((g 103 ((300 * f) + k)) - 100)).2 102 f = g 102 f := f_walk_o (kp (by decide))
          have o2 : (f_walk g ((g 103 ((300 * f) + k)) - 100)).2 81 26 = g 81 26 := f_walk_o (by decide)
          have := ih ((f_walk g ((g 103 ((300 * f) + k)) - 100)).2) (k + 1) (by rw [o1]; omega) (MI_walk x _) (by rw [o1]; omega) (by rw [o2]; exact hf2)
          rw [o1] at this
          refine G_mono ?_ this
          rintro r τ' h' ⟨q1, v, q2, rfl, rfl⟩
          have e9 : (g 102 f).toNat - k = ((g 102 f).toNat - (k + 1)) + 1 := by omega
          refine ⟨q1, _, q2, ?_⟩
          have e8 := (show f_stp g (g 103 (300 * f + k)) = f_walk g ((g 103 (300 * f + k)) - 100) from if_pos (by omega))
          rw [e9, f_dn_1 (by rw [e8]; omega), e8]
          exact ⟨rfl, rfl⟩

theorem m_dance (d : Nat) (τ : TT) (h : HT) (hT : TK τ) (f : Int) (r_f : -2147483648 ≤ f ∧ f ≤ 2147483647) (x : MI h) : S_ mX12_dance (d + 3) 0 0 [.inr (some 81), .inl f] τ h (Zi τ fun v h' => v = (f_dance h f).1 ∧ h' = (f_dance h f).2) := by
  have hd1 := x.d1
  refine S_go (k := 3) (ls := [some (.inr (some 81)), some (.inl f), none, none, none]) (by decide) rfl (Nat.le_of_ble_eq_true rfl) rfl ?_
  refine G_aload_n (i := 0) dX12_dance_0 rfl rfl ?_
  refine G_iload_n (i := 1) dX12_dance_1 rfl rfl ?_
  refine G_cVq (as := [.inl f]) qX12_244 (m_isFigure (d + 1) τ h hT f (by omega) x.f_) rfl rfl (Nat.le_of_ble_eq_true rfl) (o81 hT) dX12_dance_2 ?_
  refine G_ifb_ne (tgt := 10) dX12_dance_5 (by decide) (fun c_1 => ?_) (fun c_1 => ?_)
  · refine G_aload_n (i := 0) dX12_dance_10 rfl rfl ?_
    refine G_getI (v := h 81 11) fX12_44 rfl dX12_dance_11 (o81 hT) rfl ?_
    refine G_if_ne (tgt := 20) dX12_dance_14 (by decide) (by omega) (fun c_2 => ?_) (fun c_2 => ?_)
    · refine G_iconst dX12_dance_20 ?_
      refine G_istore_n (i := 2) (ls' := [some (.inr (some 81)), some (.inl f), some (.inl 0), none, none]) dX12_dance_21 rfl (by decide) rfl ?_
      refine G_iconst dX12_dance_22 ?_
      refine G_istore_n (i := 3) (ls' := [some (.inr (some 81)), some (.inl f), some (.inl 0), some (.inl 1), none]) dX12_dance_23 rfl (by decide) rfl ?_
      obtain ⟨F, rfl⟩ : ∃ F : Nat, f = (F : Int) := ⟨f.toNat, by omega⟩
      have := m_dance_L d τ hT F _ h 0 (Nat.lt_succ_self _) x (by have := x.ma_ F (by omega); omega) (by omega)
      refine G_mono ?_ this
      rintro r τ' h' ⟨q1, v, q2, rfl, rfl⟩
      refine ⟨q1, _, q2, ?_⟩
      unfold f_dance; rw [if_neg (by omega), if_neg (by omega)]; exact ⟨rfl, rfl⟩
    · refine G_bipush dX12_dance_17 (by decide) ?_
      refine G_iretZ rfl dX12_dance_19 ?_
      unfold f_dance; (repeat (first | rw [if_pos (by first | assumption | omega)] | rw [if_neg (by first | assumption | omega)])); first | exact ⟨rfl, rfl⟩ | rfl | (refine ⟨?_, ?_⟩ <;> first | rfl | omega | grind [hs_, hf_]) | grind [hs_, hf_]
  · refine G_iconst dX12_dance_8 ?_
    refine G_iretZ rfl dX12_dance_9 ?_
    unfold f_dance; (repeat (first | rw [if_pos (by first | assumption | omega)] | rw [if_neg (by first | assumption | omega)])); first | exact ⟨rfl, rfl⟩ | rfl | (refine ⟨?_, ?_⟩ <;> first | rfl | omega | grind [hs_, hf_]) | grind [hs_, hf_]

def f_told (h : HT) (f i : Int) : Int := if ¬ (0 ≤ f ∧ f ≤ h 81 26 - 1) then -1 else if i = -1 then h 102 f.toNat else if 0 ≤ i ∧ i ≤ h 102 f.toNat - 1 then h 103 (300 * f + i).toNat else -1
theorem m_told (d : Nat) (τ : TT) (h : HT) (hT : TK τ) (f i : Int) (r_f : -2147483648 ≤ f ∧ f ≤ 2147483647) (r_i : -2147483648 ≤ i ∧ i ≤ 2147483647) (x : MI h) : S_ mX12_told (d + 2) 0 0 [.inr (some 81), .inl f, .inl i] τ h (Zi τ fun v h' => v = f_told h f i ∧ h' = h) := by
  have hf10 := x.f_
  refine S_go (k := 0) (ls := [some (.inr (some 81)), some (.inl f), some (.inl i)]) (by decide) rfl (Nat.le_of_ble_eq_true rfl) rfl ?_
  refine G_aload_n (i := 0) dX12_told_0 rfl rfl ?_
  refine G_iload_n (i := 1) dX12_told_1 rfl rfl ?_
  refine G_cVq (as := [.inl f]) qX12_244 (m_isFigure d τ h hT f (by omega) x.f_) rfl rfl (Nat.le_of_ble_eq_true rfl) (o81 hT) dX12_told_2 ?_
  refine G_ifb_ne (tgt := 12) dX12_told_5 (by decide) (fun c_1 => ?_) (fun c_1 => ?_)
  · refine G_iload_n (i := 2) dX12_told_12 rfl rfl ?_
    refine G_iconst dX12_told_13 ?_
    refine G_icmp_ne (tgt := 26) dX12_told_14 (by decide) (by omega) (by decide) (fun c_2 => ?_) (fun c_2 => ?_)
    · refine G_aload_n (i := 0) dX12_told_26 rfl rfl ?_
      refine G_iload_n (i := 2) dX12_told_27 rfl rfl ?_
      refine G_iconst dX12_told_28 ?_
      refine G_aload_n (i := 0) dX12_told_29 rfl rfl ?_
      refine G_getR fX12_96 rfl dX12_told_30 (o81 hT) (r81_28 hT) ?_
      refine G_iload_n (i := 1) dX12_told_33 rfl rfl ?_
      refine G_iald (v := h 102 ((f).toNat)) dX12_told_34 (o102 hT) (by omega) rfl ?_
      have hm := x.ma_ (f).toNat (by omega)
      refine G_iconst dX12_told_35 ?_
      refine G_isub dX12_told_36 ?_
      refine G_cVq (as := [.inl i, .inl 0, .inl ((h 102 ((f).toNat)) - 1)]) qX12_195 (m_in (d + 1) τ _ 81 i 0 ((h 102 ((f).toNat)) - 1) (by omega) (by decide) (by omega)) rfl rfl (Nat.le_of_ble_eq_true rfl) (o81 hT) dX12_told_37 ?_
      refine G_ifb_eq (tgt := 58) dX12_told_40 (by decide) (fun c_3 => ?_) (fun c_3 => ?_)
      · refine G_iconst dX12_told_58 ?_
        refine G_iretZ rfl dX12_told_59 ?_
        exact ⟨by unfold f_told; (repeat (first | rw [if_pos (by omega)] | rw [if_neg (by omega)])), rfl⟩
      · refine G_aload_n (i := 0) dX12_told_43 rfl rfl ?_
        refine G_getR fX12_99 rfl dX12_told_44 (o81 hT) (r81_29 hT) ?_
        refine G_sipush dX12_told_47 (by decide) ?_
        refine G_iload_n (i := 1) dX12_told_50 rfl rfl ?_
        refine G_imul dX12_told_51 ?_
        refine G_iload_n (i := 2) dX12_told_52 rfl rfl ?_
        refine G_iadd dX12_told_53 ?_
        refine G_iald (v := h 103 (((300 * f) + i).toNat)) dX12_told_54 (o103 hT) (by omega) rfl ?_
        refine G_goto (tgt := 59) dX12_told_55 (by decide) ?_
        refine G_iretZ rfl dX12_told_59 ?_
        exact ⟨by unfold f_told; (repeat (first | rw [if_pos (by omega)] | rw [if_neg (by omega)])), rfl⟩
    · refine G_aload_n (i := 0) dX12_told_17 rfl rfl ?_
      refine G_getR fX12_96 rfl dX12_told_18 (o81 hT) (r81_28 hT) ?_
      refine G_iload_n (i := 1) dX12_told_21 rfl rfl ?_
      refine G_iald (v := h 102 ((f).toNat)) dX12_told_22 (o102 hT) (by omega) rfl ?_
      have hm := x.ma_ (f).toNat (by omega)
      refine G_goto (tgt := 59) dX12_told_23 (by decide) ?_
      refine G_iretZ rfl dX12_told_59 ?_
      exact ⟨by unfold f_told; (repeat (first | rw [if_pos (by omega)] | rw [if_neg (by omega)])), rfl⟩
  · refine G_iconst dX12_told_8 ?_
    refine G_goto (tgt := 59) dX12_told_9 (by decide) ?_
    refine G_iretZ rfl dX12_told_59 ?_
    exact ⟨by unfold f_told; (repeat (first | rw [if_pos (by omega)] | rw [if_neg (by omega)])), rfl⟩

def f_fdB (b : Int) (e k q : Nat) : Int := b_i2b (b_shr b (8 * ((e + k - 1 - q : Nat) : Int)))
def f_feed (h : HT) (b k : Int) : Int × HT := if ¬ (0 ≤ k ∧ k ≤ 4) then (-2, h) else if 80 < h 81 27 + k then (-4, h) else
  (h 81 27 + k, hs_ (hf_ h 104 (h 81 27).toNat ((h 81 27).toNat + k.toNat) (f_fdB b (h 81 27).toNat k.toNat)) 81 27 (h 81 27 + k))
def f_fdH (h : HT) (b : Int) (e k i : Nat) : HT := hs_ (hf_ h 104 e (e + i) (f_fdB b e k)) 81 27 ((e : Int) + i)
theorem f_fdH_s {h : HT} {b : Int} {e k i : Nat} (hi : i < k) : hs_ (hs_ (f_fdH h b e k i) 104 (e + i) (b_i2b (b_shr b (8 * ((k : Int) - i - 1))))) 81 27 ((e : Int) + i + 1) = f_fdH h b e k (i + 1) := by
  unfold f_fdH
  have e1 : (8 * ((k : Int) - i - 1)) = 8 * ((e + k - 1 - (e + i) : Nat) : Int) := by omega
  rw [show b_i2b (b_shr b (8 * ((k : Int) - i - 1))) = f_fdB b e k (e + i) from by unfold f_fdB; rw [e1]]
  funext c j
  simp only [hs_, hf_]
  grind
theorem m_feed_L (d : Nat) (τ : TT) (h : HT) (hT : TK τ) (b : Int) (e k : Nat) (hk : k ≤ 4) (hek : e + k ≤ 80) : ∀ (n_ : Nat) (i : Nat), k - i < n_ → i ≤ k → G_ mX12_feed (d + 1) 0 0 31 [some (.inr (some 81)), some (.inl b), some (.inl (k : Int)), some (.inl ((k : Int) - i - 1))] [] τ (f_fdH h b e k i) (Zi τ fun v h' => v = (e : Int) + k ∧ h' = f_fdH h b e k k) := by
  intro n_
  induction n_ with
  | zero => intro i hm_; exact absurd hm_ (Nat.not_lt_zero _)
  | succ n_ ih =>
    intro i hm_ hi
    refine G_iload_n (i := 3) dX12_feed_31 rfl rfl ?_
    refine G_if_lt (tgt := 67) dX12_feed_32 (by decide) (by omega) (fun c_1 => ?_) (fun c_1 => ?_)
    · refine G_aload_n (i := 0) dX12_feed_67 rfl rfl ?_
      refine G_getI (v := (e : Int) + i) fX12_93 rfl dX12_feed_68 (o81 hT) (hs_eq) ?_
      refine G_iretZ rfl dX12_feed_71 ?_
      obtain rfl : i = k := by omega
      exact ⟨rfl, rfl⟩
    · refine G_aload_n (i := 0) dX12_feed_35 rfl rfl ?_
      refine G_getR fX12_102 rfl dX12_feed_36 (o81 hT) (r81_30 hT) ?_
      refine G_aload_n (i := 0) dX12_feed_39 rfl rfl ?_
      refine G_getI (v := (e : Int) + i) fX12_93 rfl dX12_feed_40 (o81 hT) (hs_eq) ?_
      refine G_iload_n (i := 1) dX12_feed_43 rfl rfl ?_
      refine G_bipush dX12_feed_44 (by decide) ?_
      refine G_iload_n (i := 3) dX12_feed_46 rfl rfl ?_
      refine G_imul dX12_feed_47 ?_
      refine G_ishr dX12_feed_48 ?_
      refine G_i2b dX12_feed_49 ?_
      refine G_iastk (((e : Int) + i).toNat) dX12_feed_50 (o104 hT) (by omega) rfl ?_
      refine G_aload_n (i := 0) dX12_feed_51 rfl rfl ?_
      refine G_dup dX12_feed_52 ?_
      refine G_getI (v := (e : Int) + i) fX12_93 rfl dX12_feed_53 (o81 hT) ((hs_na (by decide)).trans (hs_eq)) ?_
      refine G_iconst dX12_feed_56 ?_
      refine G_iadd dX12_feed_57 ?_
      refine G_putI fX12_93 dX12_feed_58 (o81 hT) ?_
      refine G_iinc (ls' := [some (.inr (some 81)), some (.inl b), some (.inl (k : Int)), some (.inl (((k : Int) - i - 1) + (-1)))]) dX12_feed_61 (by decide) rfl rfl ?_
      refine G_goto (tgt := 31) dX12_feed_64 (by decide) ?_
      rw [show ((e : Int) + i).toNat = e + i by omega, f_fdH_s (by omega)]
      rw [show (k : Int) - i - 1 + (-1) = (k : Int) - ((i + 1 : Nat) : Int) - 1 by omega]
      exact ih (i + 1) (by omega) (by omega)

theorem m_feed (d : Nat) (τ : TT) (h : HT) (hT : TK τ) (b k : Int) (r_k : -2147483648 ≤ k ∧ k ≤ 2147483647) (he : 0 ≤ h 81 27 ∧ h 81 27 ≤ 80) : S_ mX12_feed (d + 1) 0 0 [.inr (some 81), .inl b, .inl k] τ h (Zi τ fun v h' => v = (f_feed h b k).1 ∧ h' = (f_feed h b k).2) := by
  refine S_go (k := 1) (ls := [some (.inr (some 81)), some (.inl b), some (.inl k), none]) (by decide) rfl (Nat.le_of_ble_eq_true rfl) rfl ?_
  refine G_aload_n (i := 0) dX12_feed_0 rfl rfl ?_
  refine G_iload_n (i := 2) dX12_feed_1 rfl rfl ?_
  refine G_iconst dX12_feed_2 ?_
  refine G_iconst dX12_feed_3 ?_
  refine G_cVq (as := [.inl k, .inl 0, .inl 4]) qX12_195 (m_in d τ _ 81 k 0 4 (by omega) (by decide) (by decide)) rfl rfl (Nat.le_of_ble_eq_true rfl) (o81 hT) dX12_feed_4 ?_
  refine G_ifb_ne (tgt := 13) dX12_feed_7 (by decide) (fun c_1 => ?_) (fun c_1 => ?_)
  · refine G_aload_n (i := 0) dX12_feed_13 rfl rfl ?_
    refine G_getI (v := h 81 27) fX12_93 rfl dX12_feed_14 (o81 hT) rfl ?_
    refine G_iload_n (i := 2) dX12_feed_17 rfl rfl ?_
    refine G_iadd dX12_feed_18 ?_
    refine G_bipush dX12_feed_19 (by decide) ?_
    refine G_icmp_le (tgt := 27) dX12_feed_21 (by decide) (by omega) (by decide) (fun c_2 => ?_) (fun c_2 => ?_)
    · refine G_iload_n (i := 2) dX12_feed_27 rfl rfl ?_
      refine G_iconst dX12_feed_28 ?_
      refine G_isub dX12_feed_29 ?_
      refine G_istore_n (i := 3) (ls' := [some (.inr (some 81)), some (.inl b), some (.inl k), some (.inl (k - 1))]) dX12_feed_30 rfl (by decide) rfl ?_
      obtain ⟨K, rfl⟩ : ∃ K : Nat, k = (K : Int) := ⟨k.toNat, by omega⟩
      obtain ⟨e, he⟩ : ∃ e : Nat, h 81 27 = (e : Int) := ⟨(h 81 27).toNat, by omega⟩
      have := m_feed_L d τ h hT b e K (by omega) (by omega) _ 0 (Nat.lt_succ_self _) (by omega)
      have e0 : f_fdH h b e K 0 = h := by funext c j; simp only [f_fdH, hs_, hf_]; grind
      rw [e0] at this
      rw [show (K : Int) - ((0 : Nat) : Int) - 1 = (K : Int) - 1 by omega] at this
      refine G_mono ?_ this
      rintro r τ' h' ⟨q1, v, q2, rfl, rfl⟩
      refine ⟨q1, _, q2, ?_⟩
      unfold f_feed; rw [if_neg (by omega), if_neg (by omega), he]; exact ⟨rfl, rfl⟩
    · refine G_bipush dX12_feed_24 (by decide) ?_
      refine G_iretZ rfl dX12_feed_26 ?_
      unfold f_feed; (repeat (first | rw [if_pos (by first | assumption | omega)] | rw [if_neg (by first | assumption | omega)])); first | exact ⟨rfl, rfl⟩ | rfl | (refine ⟨?_, ?_⟩ <;> first | rfl | omega | grind [hs_, hf_]) | grind [hs_, hf_]
  · refine G_bipush dX12_feed_10 (by decide) ?_
    refine G_iretZ rfl dX12_feed_12 ?_
    unfold f_feed; (repeat (first | rw [if_pos (by first | assumption | omega)] | rw [if_neg (by first | assumption | omega)])); first | exact ⟨rfl, rfl⟩ | rfl | (refine ⟨?_, ?_⟩ <;> first | rfl | omega | grind [hs_, hf_]) | grind [hs_, hf_]

