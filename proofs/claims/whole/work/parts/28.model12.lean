/-! the reference: right and slips -/
def f_tb (h : HT) (i : Nat) : HT := fun b j => if j < i then (if b = 109 then (j : Int) else if b = 110 then h 89 j else if b = 111 then 0 else h b j) else h b j
theorem f_tb0 (h : HT) : f_tb h 0 = h := by funext b j; grind [f_tb]
theorem f_tbs (h : HT) (i : Nat) : hs_ (hs_ (hs_ (f_tb h i) 109 i (i : Int)) 110 i (h 89 i)) 111 i 0 = f_tb h (i + 1) := by funext b j; grind [f_tb, hs_]
theorem f_tb_o {h : HT} {i b j : Nat} (hb : b ≠ 109 ∧ b ≠ 110 ∧ b ≠ 111) : f_tb h i b j = h b j := by unfold f_tb; split; (rw [if_neg hb.1, if_neg hb.2.1, if_neg hb.2.2]); rfl
/-- the floor as the dance began -/
def t_0 (h : HT) : TR := (0, 0, (fun p => (p : Int)), h 89, fun _ => 0)
theorem m_tryBegin_L (d : Nat) (τ : TT) (h : HT) (hT : TK τ) (hn : 0 ≤ h 81 1 ∧ h 81 1 ≤ 9) : ∀ (n_ : Nat) (i : Nat), (h 81 1).toNat - i < n_ → (i : Int) ≤ h 81 1 → G_ mX12_tryBegin d 0 0 12 [some (.inr (some 81)), some (.inl (i : Int))] [] τ (f_tb h i) (Zv τ fun h' => h' = f_tb h (h 81 1).toNat) := by
  intro n_
  induction n_ with
  | zero => intro i hm_; exact absurd hm_ (Nat.not_lt_zero _)
  | succ n_ ih =>
    intro i hm_ hi
    refine G_iload_n (i := 1) dX12_tryBegin_12 rfl rfl ?_
    refine G_aload_n (i := 0) dX12_tryBegin_13 rfl rfl ?_
    refine G_getI (v := h 81 1) fX12_13 rfl dX12_tryBegin_14 (o81 hT) (f_tb_o (by decide)) ?_
    refine G_icmp_ge (tgt := 52) dX12_tryBegin_17 (by decide) (by omega) (by omega) (fun c_1 => ?_) (fun c_1 => ?_)
    · refine G_vretZ rfl dX12_tryBegin_52 ?_
      obtain rfl : i = (h 81 1).toNat := by omega
      rfl
    · refine G_aload_n (i := 0) dX12_tryBegin_20 rfl rfl ?_
      refine G_getR fX12_129 rfl dX12_tryBegin_21 (o81 hT) (r81_39 hT) ?_
      refine G_iload_n (i := 1) dX12_tryBegin_24 rfl rfl ?_
      refine G_iload_n (i := 1) dX12_tryBegin_25 rfl rfl ?_
      refine G_iastk i dX12_tryBegin_26 (o109 hT) (by omega) rfl ?_
      refine G_aload_n (i := 0) dX12_tryBegin_27 rfl rfl ?_
      refine G_getR fX12_132 rfl dX12_tryBegin_28 (o81 hT) (r81_40 hT) ?_
      refine G_iload_n (i := 1) dX12_tryBegin_31 rfl rfl ?_
      refine G_aload_n (i := 0) dX12_tryBegin_32 rfl rfl ?_
      refine G_getR fX12_38 rfl dX12_tryBegin_33 (o81 hT) (r81_9 hT) ?_
      refine G_iload_n (i := 1) dX12_tryBegin_36 rfl rfl ?_
      refine G_iald (v := h 89 i) dX12_tryBegin_37 (o89 hT) (by omega) ((hs_na (by decide)).trans (f_tb_o (by decide))) ?_
      refine G_iastk i dX12_tryBegin_38 (o110 hT) (by omega) rfl ?_
      refine G_aload_n (i := 0) dX12_tryBegin_39 rfl rfl ?_
      refine G_getR fX12_135 rfl dX12_tryBegin_40 (o81 hT) (r81_41 hT) ?_
      refine G_iload_n (i := 1) dX12_tryBegin_43 rfl rfl ?_
      refine G_iconst dX12_tryBegin_44 ?_
      refine G_iastk i dX12_tryBegin_45 (o111 hT) (by omega) rfl ?_
      refine G_iinc (ls' := [some (.inr (some 81)), some (.inl ((i : Int) + 1))]) dX12_tryBegin_46 (by decide) rfl rfl ?_
      refine G_goto (tgt := 12) dX12_tryBegin_49 (by decide) ?_
      rw [f_tbs]
      exact ih (i + 1) (by omega) (by omega)

theorem m_tryBegin (d : Nat) (τ : TT) (h : HT) (hT : TK τ) (hn : 0 ≤ h 81 1 ∧ h 81 1 ≤ 9) : S_ mX12_tryBegin d 0 0 [.inr (some 81)] τ h (Zv τ fun h' => TM h' (t_0 h) ∧ FRt h h') := by
  refine S_go (k := 1) (ls := [some (.inr (some 81)), none]) (by decide) rfl (Nat.le_of_ble_eq_true rfl) rfl ?_
  refine G_aload_n (i := 0) dX12_tryBegin_0 rfl rfl ?_
  refine G_iconst dX12_tryBegin_1 ?_
  refine G_putI fX12_138 dX12_tryBegin_2 (o81 hT) ?_
  refine G_aload_n (i := 0) dX12_tryBegin_5 rfl rfl ?_
  refine G_iconst dX12_tryBegin_6 ?_
  refine G_putI fX12_141 dX12_tryBegin_7 (o81 hT) ?_
  refine G_iconst dX12_tryBegin_10 ?_
  refine G_istore_n (i := 1) (ls' := [some (.inr (some 81)), some (.inl 0)]) dX12_tryBegin_11 rfl (by decide) rfl ?_
  have := m_tryBegin_L d τ (hs_ (hs_ h 81 42 0) 81 43 0) hT (by simp [hs_]; omega) _ 0 (Nat.lt_succ_self _) (by simp [hs_]; omega)
  rw [f_tb0] at this
  refine G_mono ?_ this
  rintro r τ' h' ⟨q1, q2, q3⟩
  refine ⟨q1, q2, ?_⟩
  subst q3
  have e1 : hs_ (hs_ h 81 42 0) 81 43 0 81 1 = h 81 1 := by simp [hs_]
  rw [e1]
  refine ⟨⟨?_, ?_, fun p hp => ?_⟩, fun a i z1 z2 z3 z4 => ?_⟩
  · rw [f_tb_o (by decide), hs_eq]; rfl
  · rw [f_tb_o (by decide), hs_ni (by decide), hs_eq]; rfl
  · rw [f_tb_o (by decide), e1] at hp; have hp2 : p < (h 81 1).toNat := by omega
    refine ⟨?_, ?_, ?_⟩ <;> simp only [f_tb, if_pos hp2] <;> simp [t_0, hs_]
  · rw [f_tb_o ⟨z1, z2, z3⟩]; unfold hs_; rw [if_neg (fun q => (z4 q.1).2 q.2), if_neg (fun q => (z4 q.1).1 q.2)]

theorem m_tryPass (d : Nat) (τ : TT) (h : HT) (hT : TK τ) (T : TR) (p w : Int) (hp : 0 ≤ p ∧ p ≤ 9) (hw : 0 ≤ w ∧ w ≤ 1) (tm : TM h T) (ok : t_ok (h 81 1) T) (hn : 3 ≤ h 81 1 ∧ h 81 1 ≤ 9) : S_ mX12_tryPass (d + 1) 0 0 [.inr (some 81), .inl p, .inl w] τ h (Zi τ fun v h' => (t_pass (h 81 1) T p w = none → v = 0 ∧ h' = h) ∧ (∀ T', t_pass (h 81 1) T p w = some T' → v = 1 ∧ TM h' T') ∧ FRt h h') := by
  refine S_go (k := 4) (ls := [some (.inr (some 81)), some (.inl p), some (.inl w), none, none, none, none]) (by decide) rfl (Nat.le_of_ble_eq_true rfl) rfl ?_
  refine G_iload_n (i := 1) dX12_tryPass_0 rfl rfl ?_
  refine G_aload_n (i := 0) dX12_tryPass_1 rfl rfl ?_
  refine G_getI (v := h 81 1) fX12_13 rfl dX12_tryPass_2 (o81 hT) rfl ?_
  refine G_icmp_lt (tgt := 10) dX12_tryPass_5 (by decide) (by omega) (by omega) (fun c_1 => ?_) (fun c_1 => ?_)
  · refine G_aload_n (i := 0) dX12_tryPass_10 rfl rfl ?_
    refine G_iload_n (i := 1) dX12_tryPass_11 rfl rfl ?_
    refine G_cVq (as := [.inl p]) qX12_207 (m_after d τ h hT p (by first | omega | grind [hs_, hf_]) (by first | omega | grind [hs_, hf_])) rfl rfl (Nat.le_of_ble_eq_true rfl) (o81 hT) dX12_tryPass_12 ?_
    have hq : 0 ≤ (f_aft (h 81 1) p) ∧ (f_aft (h 81 1) p) < h 81 1 := f_aft_r (by omega)
    have t1 := tm.2.2 p.toNat (by omega)
    have t2 := tm.2.2 (f_aft (h 81 1) p).toNat (by omega)
    have o1 := ok.2.2.1 p.toNat (by omega)
    have o2 := ok.2.2.1 (f_aft (h 81 1) p).toNat (by omega)
    refine G_istore_n (i := 3) (ls' := [some (.inr (some 81)), some (.inl p), some (.inl w), some (.inl (f_aft (h 81 1) p)), none, none, none]) dX12_tryPass_15 rfl (by decide) rfl ?_
    refine G_iload_n (i := 2) dX12_tryPass_16 rfl rfl ?_
    suffices K_4 : ∀ x_3 : Int, x_3 = (if w = 0 then h 109 ((p).toNat) else h 109 ((f_aft (h 81 1) p).toNat)) → G_ mX12_tryPass (d + 1) 0 0 35 [some (.inr (some 81)), some (.inl p), some (.inl w), some (.inl (f_aft (h 81 1) p)), none, none, none] [.inl x_3] τ h (Zi τ fun v h' => (t_pass (h 81 1) T p w = none → v = 0 ∧ h' = h) ∧ (∀ T', t_pass (h 81 1) T p w = some T' → v = 1 ∧ TM h' T') ∧ FRt h h') by
      refine G_if_ne (tgt := 29) dX12_tryPass_17 (by decide) (by omega) (fun c_2 => ?_) (fun c_2 => ?_)
      · refine G_aload_n (i := 0) dX12_tryPass_29 rfl rfl ?_
        refine G_getR fX12_129 rfl dX12_tryPass_30 (o81 hT) (r81_39 hT) ?_
        refine G_iload_n (i := 3) dX12_tryPass_33 rfl rfl ?_
        refine G_iald (v := h 109 ((f_aft (h 81 1) p).toNat)) dX12_tryPass_34 (o109 hT) (by omega) rfl ?_
        exact K_4 _ (if_neg c_2).symm
      · refine G_aload_n (i := 0) dX12_tryPass_20 rfl rfl ?_
        refine G_getR fX12_129 rfl dX12_tryPass_21 (o81 hT) (r81_39 hT) ?_
        refine G_iload_n (i := 1) dX12_tryPass_24 rfl rfl ?_
        refine G_iald (v := h 109 ((p).toNat)) dX12_tryPass_25 (o109 hT) (by omega) rfl ?_
        refine G_goto (tgt := 35) dX12_tryPass_26 (by decide) ?_
        exact K_4 _ (if_pos c_2).symm
    intro x_3 ex_3
    refine G_istore (ls' := [some (.inr (some 81)), some (.inl p), some (.inl w), some (.inl (f_aft (h 81 1) p)), some (.inl x_3), none, none]) dX12_tryPass_35 (by decide) rfl ?_
    have q4 : 0 ≤ x_3 ∧ x_3 < h 81 1 := by rw [ex_3]; split <;> omega
    refine G_iload_n (i := 2) dX12_tryPass_37 rfl rfl ?_
    suffices K_7 : ∀ x_6 : Int, x_6 = (if w = 0 then h 109 ((f_aft (h 81 1) p).toNat) else h 109 ((p).toNat)) → G_ mX12_tryPass (d + 1) 0 0 56 [some (.inr (some 81)), some (.inl p), some (.inl w), some (.inl (f_aft (h 81 1) p)), some (.inl x_3), none, none] [.inl x_6] τ h (Zi τ fun v h' => (t_pass (h 81 1) T p w = none → v = 0 ∧ h' = h) ∧ (∀ T', t_pass (h 81 1) T p w = some T' → v = 1 ∧ TM h' T') ∧ FRt h h') by
      refine G_if_ne (tgt := 50) dX12_tryPass_38 (by decide) (by omega) (fun c_5 => ?_) (fun c_5 => ?_)
      · refine G_aload_n (i := 0) dX12_tryPass_50 rfl rfl ?_
        refine G_getR fX12_129 rfl dX12_tryPass_51 (o81 hT) (r81_39 hT) ?_
        refine G_iload_n (i := 1) dX12_tryPass_54 rfl rfl ?_
        refine G_iald (v := h 109 ((p).toNat)) dX12_tryPass_55 (o109 hT) (by omega) rfl ?_
        exact K_7 _ (if_neg c_5).symm
      · refine G_aload_n (i := 0) dX12_tryPass_41 rfl rfl ?_
        refine G_getR fX12_129 rfl dX12_tryPass_42 (o81 hT) (r81_39 hT) ?_
        refine G_iload_n (i := 3) dX12_tryPass_45 rfl rfl ?_
        refine G_iald (v := h 109 ((f_aft (h 81 1) p).toNat)) dX12_tryPass_46 (o109 hT) (by omega) rfl ?_
        refine G_goto (tgt := 56) dX12_tryPass_47 (by decide) ?_
        exact K_7 _ (if_pos c_5).symm
    intro x_6 ex_6
    refine G_istore (ls' := [some (.inr (some 81)), some (.inl p), some (.inl w), some (.inl (f_aft (h 81 1) p)), some (.inl x_3), some (.inl x_6), none]) dX12_tryPass_56 (by decide) rfl ?_
    have q5 : 0 ≤ x_6 ∧ x_6 < h 81 1 := by rw [ex_6]; split <;> omega
    refine G_aload_n (i := 0) dX12_tryPass_58 rfl rfl ?_
    refine G_getR fX12_132 rfl dX12_tryPass_59 (o81 hT) (r81_40 hT) ?_
    refine G_iload dX12_tryPass_62 rfl ?_
    refine G_iald (v := h 110 ((x_3).toNat)) dX12_tryPass_64 (o110 hT) (by omega) rfl ?_
    have l_64 := (tm.2.2 (x_3).toNat (by omega)).2.1
    have m_64 := ok.2.2.2.2.1 (x_3).toNat (by omega)
    refine G_iconst dX12_tryPass_65 ?_
    refine G_icmp_lt (tgt := 80) dX12_tryPass_66 (by decide) (by omega) (by decide) (fun c_8 => ?_) (fun c_8 => ?_)
    · refine G_iconst dX12_tryPass_80 ?_
      refine G_zretZ rfl (by decide) dX12_tryPass_81 ?_
      have ea : (if w = 0 then T.2.2.1 p.toNat else T.2.2.1 (f_aft (h 81 1) p).toNat) = x_3 := by rw [ex_3, t1.1, t2.1]
      have eb : (if w = 0 then T.2.2.1 (f_aft (h 81 1) p).toNat else T.2.2.1 p.toNat) = x_6 := by rw [ex_6, t1.1, t2.1]
      have la := (tm.2.2 x_3.toNat (by omega)).2.1
      have lb := (tm.2.2 x_6.toNat (by omega)).2.1
      refine ⟨fun _ => ⟨rfl, rfl⟩, fun T' z => ?_, FRt.rf⟩
      unfold t_pass at z
      rw [if_neg (by omega)] at z
      simp only [ea, eb] at z
      rw [if_pos (by omega)] at z
      cases z
    · refine G_aload_n (i := 0) dX12_tryPass_69 rfl rfl ?_
      refine G_getR fX12_132 rfl dX12_tryPass_70 (o81 hT) (r81_40 hT) ?_
      refine G_iload dX12_tryPass_73 rfl ?_
      refine G_iald (v := h 110 ((x_6).toNat)) dX12_tryPass_75 (o110 hT) (by omega) rfl ?_
      have l_75 := (tm.2.2 (x_6).toNat (by omega)).2.1
      have m_75 := ok.2.2.2.2.1 (x_6).toNat (by omega)
      refine G_iconst dX12_tryPass_76 ?_
      refine G_icmp_ge (tgt := 82) dX12_tryPass_77 (by decide) (by omega) (by decide) (fun c_9 => ?_) (fun c_9 => ?_)
      · refine G_aload_n (i := 0) dX12_tryPass_82 rfl rfl ?_
        refine G_getR fX12_132 rfl dX12_tryPass_83 (o81 hT) (r81_40 hT) ?_
        refine G_iload dX12_tryPass_86 rfl ?_
        refine G_dup2 dX12_tryPass_88 ?_
        refine G_iald (v := h 110 ((x_3).toNat)) dX12_tryPass_89 (o110 hT) (by omega) rfl ?_
        have l_89 := (tm.2.2 (x_3).toNat (by omega)).2.1
        have m_89 := ok.2.2.2.2.1 (x_3).toNat (by omega)
        refine G_iconst dX12_tryPass_90 ?_
        refine G_isub dX12_tryPass_91 ?_
        refine G_iastk ((x_3).toNat) dX12_tryPass_92 (o110 hT) (by omega) rfl ?_
        refine G_aload_n (i := 0) dX12_tryPass_93 rfl rfl ?_
        refine G_getR fX12_132 rfl dX12_tryPass_94 (o81 hT) (r81_40 hT) ?_
        refine G_iload dX12_tryPass_97 rfl ?_
        refine G_dup2 dX12_tryPass_99 ?_
        refine G_iald (v := (hs_ h 110 ((x_3).toNat) ((h 110 ((x_3).toNat)) - 1)) 110 ((x_6).toNat)) dX12_tryPass_100 (o110 hT) (by omega) rfl ?_
        have l_100 := (tm.2.2 (x_6).toNat (by omega)).2.1
        have m_100 := ok.2.2.2.2.1 (x_6).toNat (by omega)
        refine G_iconst dX12_tryPass_101 ?_
        refine G_isub dX12_tryPass_102 ?_
        refine G_iastk ((x_6).toNat) dX12_tryPass_103 (o110 hT) (by omega) rfl ?_
        refine G_aload_n (i := 0) dX12_tryPass_104 rfl rfl ?_
        refine G_getR fX12_129 rfl dX12_tryPass_105 (o81 hT) (r81_39 hT) ?_
        refine G_iload_n (i := 1) dX12_tryPass_108 rfl rfl ?_
        refine G_iald (v := h 109 ((p).toNat)) dX12_tryPass_109 (o109 hT) (by omega) ((hs_na (by decide)).trans (hs_na (by decide))) ?_
        refine G_istore (ls' := [some (.inr (some 81)), some (.inl p), some (.inl w), some (.inl (f_aft (h 81 1) p)), some (.inl x_3), some (.inl x_6), some (.inl (h 109 ((p).toNat)))]) dX12_tryPass_110 (by decide) rfl ?_
        refine G_aload_n (i := 0) dX12_tryPass_112 rfl rfl ?_
        refine G_getR fX12_129 rfl dX12_tryPass_113 (o81 hT) (r81_39 hT) ?_
        refine G_iload_n (i := 1) dX12_tryPass_116 rfl rfl ?_
        refine G_aload_n (i := 0) dX12_tryPass_117 rfl rfl ?_
        refine G_getR fX12_129 rfl dX12_tryPass_118 (o81 hT) (r81_39 hT) ?_
        refine G_iload_n (i := 3) dX12_tryPass_121 rfl rfl ?_
        refine G_iald (v := h 109 ((f_aft (h 81 1) p).toNat)) dX12_tryPass_122 (o109 hT) (by omega) ((hs_na (by decide)).trans (hs_na (by decide))) ?_
        refine G_iastk ((p).toNat) dX12_tryPass_123 (o109 hT) (by omega) rfl ?_
        refine G_aload_n (i := 0) dX12_tryPass_124 rfl rfl ?_
        refine G_getR fX12_129 rfl dX12_tryPass_125 (o81 hT) (r81_39 hT) ?_
        refine G_iload_n (i := 3) dX12_tryPass_128 rfl rfl ?_
        refine G_iload dX12_tryPass_129 rfl ?_
        refine G_iastk ((f_aft (h 81 1) p).toNat) dX12_tryPass_131 (o109 hT) (by omega) rfl ?_
        refine G_aload_n (i := 0) dX12_tryPass_132 rfl rfl ?_
        refine G_getR fX12_135 rfl dX12_tryPass_133 (o81 hT) (r81_41 hT) ?_
        refine G_iload_n (i := 1) dX12_tryPass_136 rfl rfl ?_
        refine G_iload_n (i := 2) dX12_tryPass_137 rfl rfl ?_
        refine G_iconst dX12_tryPass_138 ?_
        refine G_iadd dX12_tryPass_139 ?_
        refine G_iastk ((p).toNat) dX12_tryPass_140 (o111 hT) (by omega) rfl ?_
        refine G_iconst dX12_tryPass_141 ?_
        refine G_zretZ rfl (by decide) dX12_tryPass_142 ?_
        have ea : (if w = 0 then T.2.2.1 p.toNat else T.2.2.1 (f_aft (h 81 1) p).toNat) = x_3 := by rw [ex_3, t1.1, t2.1]
        have eb : (if w = 0 then T.2.2.1 (f_aft (h 81 1) p).toNat else T.2.2.1 p.toNat) = x_6 := by rw [ex_6, t1.1, t2.1]
        have la := (tm.2.2 x_3.toNat (by omega)).2.1
        have lb := (tm.2.2 x_6.toNat (by omega)).2.1
        have hpq : p ≠ (f_aft (h 81 1) p) := by unfold f_aft; split <;> omega
        have hi := ok.2.2.2.1 p.toNat (f_aft (h 81 1) p).toNat (by omega) (by omega)
        rw [← t1.1, ← t2.1] at hi
        have hab : x_3.toNat ≠ x_6.toNat := by rw [ex_3, ex_6]; split <;> omega
        have et : t_pass (h 81 1) T p w = some (T.1, T.2.1, t_sw T.2.2.1 p.toNat (f_aft (h 81 1) p).toNat, (fun r => if r = x_3.toNat then T.2.2.2.1 r - 1 else if r = x_6.toNat then T.2.2.2.1 r - 2 else T.2.2.2.1 r), (fun k => if k = p.toNat then w + 1 else T.2.2.2.2 k)) := by unfold t_pass; rw [if_neg (by omega)]; simp only [ea, eb]; rw [if_neg (by omega)]
        refine ⟨(fun z => by rw [et] at z; cases z), fun T' z => ?_, fun a i z1 z2 z3 z4 => ?_⟩
        · rw [et] at z; cases z
          refine ⟨rfl, ?_, ?_, fun k hk => ?_⟩
          · simp only [hs_]; simpa using tm.1
          · simp only [hs_]; simpa using tm.2.1
          · have hk2 : (k : Int) < h 81 1 := by simpa [hs_] using hk
            obtain ⟨k1, k2, k3⟩ := tm.2.2 k hk2
            refine ⟨?_, ?_, ?_⟩
            · simp [hs_, t_sw, k1, t1.1, t2.1]
            · simp only [hs_]; by_cases u1 : k = x_3.toNat <;> by_cases u2 : k = x_6.toNat <;> simp_all
            · simp [hs_, k3]
        · unfold hs_; simp [z1, z2, z3]
      · refine G_iconst dX12_tryPass_80 ?_
        refine G_zretZ rfl (by decide) dX12_tryPass_81 ?_
        have ea : (if w = 0 then T.2.2.1 p.toNat else T.2.2.1 (f_aft (h 81 1) p).toNat) = x_3 := by rw [ex_3, t1.1, t2.1]
        have eb : (if w = 0 then T.2.2.1 (f_aft (h 81 1) p).toNat else T.2.2.1 p.toNat) = x_6 := by rw [ex_6, t1.1, t2.1]
        have la := (tm.2.2 x_3.toNat (by omega)).2.1
        have lb := (tm.2.2 x_6.toNat (by omega)).2.1
        refine ⟨fun _ => ⟨rfl, rfl⟩, fun T' z => ?_, FRt.rf⟩
        unfold t_pass at z
        rw [if_neg (by omega)] at z
        simp only [ea, eb] at z
        rw [if_pos (by omega)] at z
        cases z
  · refine G_iconst dX12_tryPass_8 ?_
    refine G_zretZ rfl (by decide) dX12_tryPass_9 ?_
    exact ⟨fun _ => ⟨rfl, rfl⟩, (fun T' z => by unfold t_pass at z; rw [if_pos (by omega)] at z; cases z), FRt.rf⟩

theorem bAndN {P Q : Prop} [Decidable P] [Decidable Q] : (if P then (if Q then (0 : Int) else 1) else 0) = if P ∧ ¬ Q then 1 else 0 := by
  by_cases a : P <;> by_cases b : Q <;> simp [a, b]
theorem bAnd3 {P Q S : Prop} [Decidable P] [Decidable Q] [Decidable S] : (if P then (if Q then (if S then (1 : Int) else 0) else 0) else 0) = if P ∧ (Q ∧ S) then 1 else 0 := by
  by_cases a : P <;> by_cases b : Q <;> by_cases c : S <;> simp [a, b, c]
theorem bNot {P : Prop} [Decidable P] : (if P then (0 : Int) else 1) = if ¬ P then 1 else 0 := by
  by_cases a : P <;> simp [a]
abbrev f_wA (h : HT) (G : Int) (i : Nat) : Prop := h 81 42 < h 81 15 ∧ ∀ q : Nat, q < i → G ≤ h 110 q
theorem f_wA_s {h : HT} {G : Int} {i : Nat} : (f_wA h G i ∧ ¬ h 110 i < G) ↔ f_wA h G (i + 1) := by
  constructor
  · rintro ⟨⟨a, b⟩, c⟩
    refine ⟨a, fun q hq => ?_⟩
    rcases Nat.lt_succ_iff_lt_or_eq.mp hq with z | z
    · exact b q z
    · subst z; omega
  · rintro ⟨a, b⟩
    exact ⟨⟨a, fun q hq => b q (by omega)⟩, by have := b i (by omega); omega⟩
def f_w3 (h : HT) (G : Int) (i : Nat) : HT := fun b j => if j < i then (if b = 110 then h 110 j - G else if b = 111 then 0 else h b j) else h b j
theorem f_w30 (h : HT) (G : Int) : f_w3 h G 0 = h := by funext b j; grind [f_w3]
theorem f_w3_o {h : HT} {G : Int} {i b j : Nat} (hb : b ≠ 110 ∧ b ≠ 111) : f_w3 h G i b j = h b j := by unfold f_w3; split; (rw [if_neg hb.1, if_neg hb.2]); rfl
theorem f_w3_n {h : HT} {G : Int} {i b j : Nat} (hj : i ≤ j) : f_w3 h G i b j = h b j := if_neg (by omega)
theorem f_w3_s {h : HT} {G : Int} {i : Nat} : hs_ (hs_ (f_w3 h G i) 110 i (h 110 i - G)) 111 i 0 = f_w3 h G (i + 1) := by funext b j; grind [f_w3, hs_]
abbrev f_wB (h : HT) (i : Nat) : Prop := ∀ q : Nat, q < i → h 109 q = h 95 (9 * (h 81 42).toNat + q) ∧ h 111 q = h 96 (9 * (h 81 42).toNat + q)
theorem f_wB_s {h : HT} {i : Nat} : (f_wB h i ∧ (h 109 i = h 95 (9 * (h 81 42).toNat + i) ∧ h 111 i = h 96 (9 * (h 81 42).toNat + i))) ↔ f_wB h (i + 1) := by
  constructor
  · rintro ⟨a, b⟩ q hq
    rcases Nat.lt_succ_iff_lt_or_eq.mp hq with z | z
    · exact a q z
    · subst z; exact b
  · intro a; exact ⟨fun q hq => a q (by omega), a i (by omega)⟩
theorem m_tryWalk_L2 (d : Nat) (τ : TT) (h : HT) (hT : TK τ) (w G : Int) (hn : 3 ≤ h 81 1 ∧ h 81 1 ≤ 9) (hr : 0 ≤ h 81 42 ∧ h 81 42 ≤ 99) (hc : ∀ k : Nat, k < 900 → 0 ≤ h 95 k ∧ h 95 k ≤ 8) (hm : ∀ k : Nat, k < 900 → 0 ≤ h 96 k ∧ h 96 k ≤ 2) (h1 : ∀ k : Nat, (k : Int) < h 81 1 → 0 ≤ h 109 k ∧ h 109 k < h 81 1) (h3 : ∀ k : Nat, (k : Int) < h 81 1 → 0 ≤ h 111 k ∧ h 111 k ≤ 2) : ∀ (n_ : Nat) (i : Nat), (h 81 1).toNat - i < n_ → (i : Int) ≤ h 81 1 → G_ mX12_tryWalk (d + 1) 0 0 84 [some (.inr (some 81)), some (.inl w), some (.inl G), some (.inl (if f_wB h i then 1 else 0)), some (.inl (i : Int))] [] τ (f_w3 h G i) (Zi τ fun v h' => v = (if f_wB h (h 81 1).toNat then 1 else 0) ∧ h' = hs_ (f_w3 h G (h 81 1).toNat) 81 42 (h 81 42 + 1)) := by
  intro n_
  induction n_ with
  | zero => intro i hm_; exact absurd hm_ (Nat.not_lt_zero _)
  | succ n_ ih =>
    intro i hm_ hi
    refine G_iload dX12_tryWalk_84 rfl ?_
    refine G_aload_n (i := 0) dX12_tryWalk_86 rfl rfl ?_
    refine G_getI (v := h 81 1) fX12_13 rfl dX12_tryWalk_87 (o81 hT) (f_w3_o (by decide)) ?_
    refine G_icmp_ge (tgt := 178) dX12_tryWalk_90 (by decide) (by omega) (by omega) (fun c_1 => ?_) (fun c_1 => ?_)
    · refine G_aload_n (i := 0) dX12_tryWalk_178 rfl rfl ?_
      refine G_dup dX12_tryWalk_179 ?_
      refine G_getI (v := h 81 42) fX12_138 rfl dX12_tryWalk_180 (o81 hT) (f_w3_o (by decide)) ?_
      refine G_iconst dX12_tryWalk_183 ?_
      refine G_iadd dX12_tryWalk_184 ?_
      refine G_putI fX12_138 dX12_tryWalk_185 (o81 hT) ?_
      refine G_iload_n (i := 3) dX12_tryWalk_188 rfl rfl ?_
      refine G_zretZ rfl b01 dX12_tryWalk_189 ?_
      obtain rfl : i = (h 81 1).toNat := by omega
      exact ⟨rfl, rfl⟩
    · refine G_aload_n (i := 0) dX12_tryWalk_93 rfl rfl ?_
      refine G_getR fX12_132 rfl dX12_tryWalk_94 (o81 hT) (r81_40 hT) ?_
      refine G_iload dX12_tryWalk_97 rfl ?_
      refine G_dup2 dX12_tryWalk_99 ?_
      refine G_iald (v := h 110 i) dX12_tryWalk_100 (o110 hT) (by omega) (f_w3_n (Nat.le_refl _)) ?_
      refine G_iload_n (i := 2) dX12_tryWalk_101 rfl rfl ?_
      refine G_isub dX12_tryWalk_102 ?_
      refine G_iastk i dX12_tryWalk_103 (o110 hT) (by omega) rfl ?_
      refine G_iload_n (i := 3) dX12_tryWalk_104 rfl rfl ?_
      suffices K_4 : ∀ x_3 : Int, x_3 = (if (f_wB h i) then (if (h 109 i) = (h 95 ((9 * (h 81 42)) + (i : Int)).toNat) then (if (h 111 i) = (h 96 ((9 * (h 81 42)) + (i : Int)).toNat) then 1 else 0) else 0) else 0) → G_ mX12_tryWalk (d + 1) 0 0 163 [some (.inr (some 81)), some (.inl w), some (.inl G), some (.inl (if f_wB h i then 1 else 0)), some (.inl (i : Int))] [.inl x_3] τ (hs_ (f_w3 h G i) 110 i ((h 110 i) - G)) (Zi τ fun v h' => v = (if f_wB h (h 81 1).toNat then 1 else 0) ∧ h' = hs_ (f_w3 h G (h 81 1).toNat) 81 42 (h 81 42 + 1)) by
        refine G_ifb_eq (tgt := 162) dX12_tryWalk_105 (by decide) (fun c_2 => ?_) (fun c_2 => ?_)
        · refine G_iconst dX12_tryWalk_162 ?_
          exact K_4 _ (if_neg c_2).symm
        · refine G_aload_n (i := 0) dX12_tryWalk_108 rfl rfl ?_
          refine G_getR fX12_129 rfl dX12_tryWalk_109 (o81 hT) (r81_39 hT) ?_
          refine G_iload dX12_tryWalk_112 rfl ?_
          refine G_iald (v := h 109 i) dX12_tryWalk_114 (o109 hT) (by omega) ((hs_na (by decide)).trans (f_w3_o (by decide))) ?_
          have e114 := h1 i (by omega)
          refine G_aload_n (i := 0) dX12_tryWalk_115 rfl rfl ?_
          refine G_getR fX12_66 rfl dX12_tryWalk_116 (o81 hT) (r81_18 hT) ?_
          refine G_bipush dX12_tryWalk_119 (by decide) ?_
          refine G_aload_n (i := 0) dX12_tryWalk_121 rfl rfl ?_
          refine G_getI (v := h 81 42) fX12_138 rfl dX12_tryWalk_122 (o81 hT) ((hs_na (by decide)).trans (f_w3_o (by decide))) ?_
          refine G_imul dX12_tryWalk_125 ?_
          refine G_iload dX12_tryWalk_126 rfl ?_
          refine G_iadd dX12_tryWalk_128 ?_
          refine G_iald (v := h 95 ((9 * (h 81 42)) + (i : Int)).toNat) dX12_tryWalk_129 (o95 hT) (by omega) ((hs_na (by decide)).trans (f_w3_o (by decide))) ?_
          have e129 := hc ((9 * (h 81 42)) + (i : Int)).toNat (by omega)
          refine G_icmp_ne (tgt := 162) dX12_tryWalk_130 (by decide) (by omega) (by omega) (fun c_5 => ?_) (fun c_5 => ?_)
          · refine G_iconst dX12_tryWalk_162 ?_
            exact K_4 _ ((if_pos c_2).trans (if_neg c_5)).symm
          · refine G_aload_n (i := 0) dX12_tryWalk_133 rfl rfl ?_
            refine G_getR fX12_135 rfl dX12_tryWalk_134 (o81 hT) (r81_41 hT) ?_
            refine G_iload dX12_tryWalk_137 rfl ?_
            refine G_iald (v := h 111 i) dX12_tryWalk_139 (o111 hT) (by omega) ((hs_na (by decide)).trans (f_w3_n (Nat.le_refl _))) ?_
            have e139 := h3 i (by omega)
            refine G_aload_n (i := 0) dX12_tryWalk_140 rfl rfl ?_
            refine G_getR fX12_69 rfl dX12_tryWalk_141 (o81 hT) (r81_19 hT) ?_
            refine G_bipush dX12_tryWalk_144 (by decide) ?_
            refine G_aload_n (i := 0) dX12_tryWalk_146 rfl rfl ?_
            refine G_getI (v := h 81 42) fX12_138 rfl dX12_tryWalk_147 (o81 hT) ((hs_na (by decide)).trans (f_w3_o (by decide))) ?_
            refine G_imul dX12_tryWalk_150 ?_
            refine G_iload dX12_tryWalk_151 rfl ?_
            refine G_iadd dX12_tryWalk_153 ?_
            refine G_iald (v := h 96 ((9 * (h 81 42)) + (i : Int)).toNat) dX12_tryWalk_154 (o96 hT) (by omega) ((hs_na (by decide)).trans (f_w3_o (by decide))) ?_
            have e154 := hm ((9 * (h 81 42)) + (i : Int)).toNat (by omega)
            refine G_icmp_ne (tgt := 162) dX12_tryWalk_155 (by decide) (by omega) (by omega) (fun c_6 => ?_) (fun c_6 => ?_)
            · refine G_iconst dX12_tryWalk_162 ?_
              exact K_4 _ ((if_pos c_2).trans ((if_pos c_5).trans (if_neg c_6))).symm
            · refine G_iconst dX12_tryWalk_158 ?_
              refine G_goto (tgt := 163) dX12_tryWalk_159 (by decide) ?_
              exact K_4 _ ((if_pos c_2).trans ((if_pos c_5).trans (if_pos c_6))).symm
      intro x_3 ex_3
      refine G_istore_n (i := 3) (ls' := [some (.inr (some 81)), some (.inl w), some (.inl G), some (.inl x_3), some (.inl (i : Int))]) dX12_tryWalk_163 rfl (by decide) rfl ?_
      refine G_aload_n (i := 0) dX12_tryWalk_164 rfl rfl ?_
      refine G_getR fX12_135 rfl dX12_tryWalk_165 (o81 hT) (r81_41 hT) ?_
      refine G_iload dX12_tryWalk_168 rfl ?_
      refine G_iconst dX12_tryWalk_170 ?_
      refine G_iastk i dX12_tryWalk_171 (o111 hT) (by omega) rfl ?_
      refine G_iinc (ls' := [some (.inr (some 81)), some (.inl w), some (.inl G), some (.inl x_3), some (.inl ((i : Int) + 1))]) dX12_tryWalk_172 (by decide) rfl rfl ?_
      refine G_goto (tgt := 84) dX12_tryWalk_175 (by decide) ?_
      rw [f_w3_s]
      rw [show x_3 = (if f_wB h (i + 1) then 1 else 0) from by rw [ex_3, bAnd3]; exact bCg (by rw [show (9 * h 81 42 + (i : Int)).toNat = 9 * (h 81 42).toNat + i by omega]; exact f_wB_s)]
      exact ih (i + 1) (by omega) (by omega)

theorem t_wA_h {h : HT} {T : TR} (tm : TM h T) (hn : 0 ≤ h 81 1) : t_wA (h 81 1) (h 81 15) T ↔ f_wA h (10 + (h 81 42).tdiv 3) (h 81 1).toNat := by
  unfold t_wA f_wA
  rw [tm.2.1]
  constructor
  · rintro ⟨a, b⟩; exact ⟨a, fun q hq => by rw [(tm.2.2 q (by omega)).2.1]; exact b q hq⟩
  · rintro ⟨a, b⟩; exact ⟨a, fun q hq => by rw [← (tm.2.2 q (by omega)).2.1]; exact b q hq⟩
theorem t_wB_h {h : HT} {T : TR} {w : Int} (tm : TM h T) (hn : 1 ≤ h 81 1) : t_wB (h 81 1) (h 95) (h 96) T w ↔ f_wB (f_turn h 109 (h 81 1).toNat w) (h 81 1).toNat := by
  unfold t_wB f_wB
  have e1 : ∀ q, q < (h 81 1).toNat → f_turn h 109 (h 81 1).toNat w 109 q = T.2.2.1 (f_rot (h 81 1).toNat w q) := fun q hq => by
    rw [f_turn_at, if_pos hq]; exact (tm.2.2 _ (by have := f_rot_r (w := w) (j := q) (show 0 < (h 81 1).toNat by omega) hq; omega)).1
  constructor
  · intro a q hq
    rw [e1 q hq, f_turn_o (by decide), f_turn_o (by decide), f_turn_o (by decide), f_turn_o (by decide), tm.2.1, (tm.2.2 q (by omega)).2.2]
    exact a q hq
  · intro a q hq
    have := a q hq
    rw [e1 q hq, f_turn_o (by decide), f_turn_o (by decide), f_turn_o (by decide), f_turn_o (by decide), tm.2.1, (tm.2.2 q (by omega)).2.2] at this
    exact this
theorem t_walk_n0 {n R : Int} {cr cm : Nat → Int} {T : TR} {w : Int} (e : ¬ t_wA n R T) : t_walk n R cr cm T w = none := if_neg e
theorem t_walk_n1 {n R : Int} {cr cm : Nat → Int} {T : TR} {w : Int} (a : t_wA n R T) (e : ¬ t_wB n cr cm T w) : t_walk n R cr cm T w = none := (if_pos a).trans (if_neg e)
theorem t_walk_s {n R : Int} {cr cm : Nat → Int} {T : TR} {w : Int} (a : t_wA n R T) (e : t_wB n cr cm T w) : t_walk n R cr cm T w = some (T.1, T.2.1 + 1, (fun p => T.2.2.1 (f_rot n.toNat w p)), (fun p => T.2.2.2.1 p - (10 + T.2.1.tdiv 3)), fun _ => 0) := (if_pos a).trans (if_pos e)
theorem m_tryWalk_L1 (d : Nat) (τ : TT) (h : HT) (hT : TK τ) (T : TR) (w : Int) (hw : 0 ≤ w ∧ w ≤ 1) (tm : TM h T) (ok : t_ok (h 81 1) T) (hn : 3 ≤ h 81 1 ∧ h 81 1 ≤ 9) (x : MI h) (hg : 0 ≤ (h 81 42).tdiv 3 ∧ (h 81 42).tdiv 3 ≤ 100) : ∀ (n_ : Nat) (i : Nat), (h 81 1).toNat - i < n_ → (i : Int) ≤ h 81 1 → G_ mX12_tryWalk (d + 1) 0 0 30 [some (.inr (some 81)), some (.inl w), some (.inl (10 + (h 81 42).tdiv 3)), some (.inl (if f_wA h (10 + (h 81 42).tdiv 3) i then 1 else 0)), some (.inl (i : Int))] [] τ h (Zi τ fun v h' => (t_walk (h 81 1) (h 81 15) (h 95) (h 96) T w = none → v = 0) ∧ (∀ T', t_walk (h 81 1) (h 81 15) (h 95) (h 96) T w = some T' → v = 1 ∧ TM h' T') ∧ FRt h h') := by
  intro n_
  induction n_ with
  | zero => intro i hm_; exact absurd hm_ (Nat.not_lt_zero _)
  | succ n_ ih =>
    intro i hm_ hi
    have hmr := x.r_
    refine G_iload dX12_tryWalk_30 rfl ?_
    refine G_aload_n (i := 0) dX12_tryWalk_32 rfl rfl ?_
    refine G_getI (v := h 81 1) fX12_13 rfl dX12_tryWalk_33 (o81 hT) rfl ?_
    refine G_icmp_ge (tgt := 66) dX12_tryWalk_36 (by decide) (by omega) (by omega) (fun c_1 => ?_) (fun c_1 => ?_)
    · refine G_iload_n (i := 3) dX12_tryWalk_66 rfl rfl ?_
      refine G_ifb_ne (tgt := 72) dX12_tryWalk_67 (by decide) (fun c_2 => ?_) (fun c_2 => ?_)
      · refine G_aload_n (i := 0) dX12_tryWalk_72 rfl rfl ?_
        refine G_aload_n (i := 0) dX12_tryWalk_73 rfl rfl ?_
        refine G_getR fX12_129 rfl dX12_tryWalk_74 (o81 hT) (r81_39 hT) ?_
        refine G_iload_n (i := 1) dX12_tryWalk_77 rfl rfl ?_
        refine G_cVv (as := [.inr (some 109), .inl w]) qX12_215 (m_turn d τ h hT 109 9 (o109 hT) w (by omega) (by decide) (by omega) (by decide)) rfl rfl (Nat.le_of_ble_eq_true rfl) (o81 hT) dX12_tryWalk_78 (fun h' e' => ?_)
        subst e'
        refine G_iconst dX12_tryWalk_81 ?_
        refine G_istore (ls' := [some (.inr (some 81)), some (.inl w), some (.inl (10 + (h 81 42).tdiv 3)), some (.inl (if f_wA h (10 + (h 81 42).tdiv 3) i then 1 else 0)), some (.inl 0)]) dX12_tryWalk_82 (by decide) rfl ?_
        obtain rfl : i = (h 81 1).toNat := by omega
        have hA := (t_wA_h tm (by omega)).mpr (by assumption)
        have hA1 := hA.1
        have hrw := tm.2.1
        have ok2 := ok.2.1
        have x1 : (f_turn h 109 (h 81 1).toNat w) 81 1 = h 81 1 := f_turn_o (by decide)
        have x42 : (f_turn h 109 (h 81 1).toNat w) 81 42 = h 81 42 := f_turn_o (by decide)
        have := m_tryWalk_L2 d τ (f_turn h 109 (h 81 1).toNat w) hT w (10 + (h 81 42).tdiv 3) (by omega) (by omega) (fun k hk => by rw [f_turn_o (by decide)]; exact x.cr_ k hk) (fun k hk => by rw [f_turn_o (by decide)]; exact x.cm_ k hk) (fun k hk => by rw [x1] at hk ⊢; rw [f_turn_at, if_pos (by omega)]; have r1 := f_rot_r (w := w) (j := k) (show 0 < (h 81 1).toNat by omega) (by omega); rw [(tm.2.2 _ (by omega)).1]; exact ok.2.2.1 _ (by omega)) (fun k hk => by rw [x1] at hk; rw [f_turn_o (by decide), (tm.2.2 k hk).2.2]; exact ok.2.2.2.2.2 k hk) _ 0 (Nat.lt_succ_self _) (by omega)
        rw [f_w30, if_pos (show f_wB (f_turn h 109 (h 81 1).toNat w) 0 from fun q hq => absurd hq (Nat.not_lt_zero _))] at this
        rw [if_pos ((t_wA_h tm (by omega)).mp hA)]
        refine G_mono ?_ this
        rintro r τ' h' ⟨q1, v, q2, q3, q4⟩
        refine ⟨q1, v, q2, ?_⟩
        rw [x1, x42] at q4
        rw [x1] at q3
        have hfr : FRt h h' := fun a i z1 z2 z3 z4 => by rw [q4, show ∀ (Y : HT) u, hs_ Y 81 42 u a i = Y a i from fun Y u => if_neg fun z => (z4 z.1).1 z.2, f_w3_o ⟨z2, z3⟩, f_turn_o z1]
        by_cases hB : t_wB (h 81 1) (h 95) (h 96) T w
        · rw [if_pos ((t_wB_h tm (by omega)).mp hB)] at q3
          refine ⟨fun z => by (rw [t_walk_s hA hB] at z; cases z), fun T' z => ?_, hfr⟩
          rw [t_walk_s hA hB] at z; cases z
          have y1 : h' 81 1 = h 81 1 := by rw [q4, hs_ni (by decide), f_w3_o (by decide), x1]
          refine ⟨q3, ?_, ?_, fun p hp => ?_⟩
          · rw [q4, hs_ni (by decide), f_w3_o (by decide), f_turn_o (by decide)]; exact tm.1
          · rw [q4, hs_eq, tm.2.1]
          · rw [y1] at hp; have hp2 : p < (h 81 1).toNat := by omega
            have r1 := f_rot_r (w := w) (j := p) (show 0 < (h 81 1).toNat by omega) hp2
            refine ⟨?_, ?_, ?_⟩
            · rw [q4, hs_na (by decide), f_w3_o (by decide), f_turn_at, if_pos hp2]; exact (tm.2.2 _ (by omega)).1
            · rw [q4, hs_na (by decide)]; simp only [f_w3, if_pos hp2, if_true]; rw [f_turn_o (by decide), (tm.2.2 p (by omega)).2.1, tm.2.1]
            · rw [q4, hs_na (by decide)]; simp [f_w3, hp2]
        · rw [if_neg (fun z => hB ((t_wB_h tm (by omega)).mpr z))] at q3
          exact ⟨fun _ => q3, fun T' z => by (rw [t_walk_n1 hA hB] at z; cases z), hfr⟩
      · refine G_iconst dX12_tryWalk_70 ?_
        refine G_zretZ rfl (by decide) dX12_tryWalk_71 ?_
        obtain rfl : i = (h 81 1).toNat := by omega
        have hA : ¬ t_wA (h 81 1) (h 81 15) T := fun z => (by assumption : ¬ f_wA h (10 + (h 81 42).tdiv 3) (h 81 1).toNat) ((t_wA_h tm (by omega)).mp z)
        exact ⟨fun _ => rfl, (fun T' z => by rw [t_walk_n0 hA] at z; cases z), FRt.rf⟩
    · refine G_iload_n (i := 3) dX12_tryWalk_39 rfl rfl ?_
      suffices K_5 : ∀ x_4 : Int, x_4 = (if (f_wA h (10 + (h 81 42).tdiv 3) i) then (if (h 110 i) < (10 + (h 81 42).tdiv 3) then 0 else 1) else 0) → G_ mX12_tryWalk (d + 1) 0 0 59 [some (.inr (some 81)), some (.inl w), some (.inl (10 + (h 81 42).tdiv 3)), some (.inl (if f_wA h (10 + (h 81 42).tdiv 3) i then 1 else 0)), some (.inl (i : Int))] [.inl x_4] τ h (Zi τ fun v h' => (t_walk (h 81 1) (h 81 15) (h 95) (h 96) T w = none → v = 0) ∧ (∀ T', t_walk (h 81 1) (h 81 15) (h 95) (h 96) T w = some T' → v = 1 ∧ TM h' T') ∧ FRt h h') by
        refine G_ifb_eq (tgt := 58) dX12_tryWalk_40 (by decide) (fun c_3 => ?_) (fun c_3 => ?_)
        · refine G_iconst dX12_tryWalk_58 ?_
          exact K_5 _ (if_neg c_3).symm
        · refine G_aload_n (i := 0) dX12_tryWalk_43 rfl rfl ?_
          refine G_getR fX12_132 rfl dX12_tryWalk_44 (o81 hT) (r81_40 hT) ?_
          refine G_iload dX12_tryWalk_47 rfl ?_
          refine G_iald (v := h 110 i) dX12_tryWalk_49 (o110 hT) (by omega) rfl ?_
          have l_ := (tm.2.2 i (by omega)).2.1
          have m_ := ok.2.2.2.2.1 i (by omega)
          refine G_iload_n (i := 2) dX12_tryWalk_50 rfl rfl ?_
          refine G_icmp_lt (tgt := 58) dX12_tryWalk_51 (by decide) (by omega) (by omega) (fun c_6 => ?_) (fun c_6 => ?_)
          · refine G_iconst dX12_tryWalk_58 ?_
            exact K_5 _ ((if_pos c_3).trans (if_pos c_6)).symm
          · refine G_iconst dX12_tryWalk_54 ?_
            refine G_goto (tgt := 59) dX12_tryWalk_55 (by decide) ?_
            exact K_5 _ ((if_pos c_3).trans (if_neg c_6)).symm
      intro x_4 ex_4
      refine G_istore_n (i := 3) (ls' := [some (.inr (some 81)), some (.inl w), some (.inl (10 + (h 81 42).tdiv 3)), some (.inl x_4), some (.inl (i : Int))]) dX12_tryWalk_59 rfl (by decide) rfl ?_
      refine G_iinc (ls' := [some (.inr (some 81)), some (.inl w), some (.inl (10 + (h 81 42).tdiv 3)), some (.inl x_4), some (.inl ((i : Int) + 1))]) dX12_tryWalk_60 (by decide) rfl rfl ?_
      refine G_goto (tgt := 30) dX12_tryWalk_63 (by decide) ?_
      rw [show x_4 = (if f_wA h (10 + (h 81 42).tdiv 3) (i + 1) then 1 else 0) from by rw [ex_4, bAndN]; exact bCg f_wA_s]
      exact ih (i + 1) (by omega) (by omega)

theorem m_tryWalk (d : Nat) (τ : TT) (h : HT) (hT : TK τ) (T : TR) (w : Int) (hw : 0 ≤ w ∧ w ≤ 1) (tm : TM h T) (ok : t_ok (h 81 1) T) (hn : 3 ≤ h 81 1 ∧ h 81 1 ≤ 9) (x : MI h) : S_ mX12_tryWalk (d + 1) 0 0 [.inr (some 81), .inl w] τ h (Zi τ fun v h' => (t_walk (h 81 1) (h 81 15) (h 95) (h 96) T w = none → v = 0) ∧ (∀ T', t_walk (h 81 1) (h 81 15) (h 95) (h 96) T w = some T' → v = 1 ∧ TM h' T') ∧ FRt h h') := by
  have t2 := tm.2.1
  have o2 := ok.2.1
  have hmr := x.r_
  refine S_go (k := 3) (ls := [some (.inr (some 81)), some (.inl w), none, none, none]) (by decide) rfl (Nat.le_of_ble_eq_true rfl) rfl ?_
  refine G_bipush dX12_tryWalk_0 (by decide) ?_
  refine G_aload_n (i := 0) dX12_tryWalk_2 rfl rfl ?_
  refine G_getI (v := h 81 42) fX12_138 rfl dX12_tryWalk_3 (o81 hT) rfl ?_
  refine G_iconst dX12_tryWalk_6 ?_
  refine G_idiv dX12_tryWalk_7 (by omega) (by decide) ?_
  refine G_iadd dX12_tryWalk_8 ?_
  refine G_istore_n (i := 2) (ls' := [some (.inr (some 81)), some (.inl w), some (.inl (10 + ((h 81 42).tdiv 3))), none, none]) dX12_tryWalk_9 rfl (by decide) rfl ?_
  refine G_aload_n (i := 0) dX12_tryWalk_10 rfl rfl ?_
  refine G_getI (v := h 81 42) fX12_138 rfl dX12_tryWalk_11 (o81 hT) rfl ?_
  refine G_aload_n (i := 0) dX12_tryWalk_14 rfl rfl ?_
  refine G_getI (v := h 81 15) fX12_57 rfl dX12_tryWalk_15 (o81 hT) rfl ?_
  suffices K_3 : ∀ x_2 : Int, x_2 = (if (h 81 15) ≤ (h 81 42) then 0 else 1) → G_ mX12_tryWalk (d + 1) 0 0 26 [some (.inr (some 81)), some (.inl w), some (.inl (10 + ((h 81 42).tdiv 3))), none, none] [.inl x_2] τ h (Zi τ fun v h' => (t_walk (h 81 1) (h 81 15) (h 95) (h 96) T w = none → v = 0) ∧ (∀ T', t_walk (h 81 1) (h 81 15) (h 95) (h 96) T w = some T' → v = 1 ∧ TM h' T') ∧ FRt h h') by
    refine G_icmp_ge (tgt := 25) dX12_tryWalk_18 (by decide) (by omega) (by omega) (fun c_1 => ?_) (fun c_1 => ?_)
    · refine G_iconst dX12_tryWalk_25 ?_
      exact K_3 _ (if_pos c_1).symm
    · refine G_iconst dX12_tryWalk_21 ?_
      refine G_goto (tgt := 26) dX12_tryWalk_22 (by decide) ?_
      exact K_3 _ (if_neg c_1).symm
  intro x_2 ex_2
  refine G_istore_n (i := 3) (ls' := [some (.inr (some 81)), some (.inl w), some (.inl (10 + ((h 81 42).tdiv 3))), some (.inl x_2), none]) dX12_tryWalk_26 rfl (by decide) rfl ?_
  refine G_iconst dX12_tryWalk_27 ?_
  refine G_istore (ls' := [some (.inr (some 81)), some (.inl w), some (.inl (10 + ((h 81 42).tdiv 3))), some (.inl x_2), some (.inl 0)]) dX12_tryWalk_28 (by decide) rfl ?_
  have := m_tryWalk_L1 d τ h hT T w hw tm ok hn x ⟨Int.tdiv_nonneg (by omega) (by decide), by have := Int.tdiv_le_self 3 (show 0 ≤ h 81 42 by omega); omega⟩ _ 0 (Nat.lt_succ_self _) (by omega)
  rw [show x_2 = (if f_wA h (10 + (h 81 42).tdiv 3) 0 then 1 else 0) from by rw [ex_2, bNot]; exact bCg ⟨fun z => ⟨by omega, fun q hq => absurd hq (Nat.not_lt_zero _)⟩, fun z => by have := z.1; omega⟩]
  exact this

theorem MI_FRt {h h' : HT} (fr : FRt h h') (x : MI h) : MI h' := by
  have o81_0 : h' 81 0 = h 81 0 := fr 81 0 (by decide) (by decide) (by decide) (by omega)
  have o81_1 : h' 81 1 = h 81 1 := fr 81 1 (by decide) (by decide) (by decide) (by omega)
  have o81_11 : h' 81 11 = h 81 11 := fr 81 11 (by decide) (by decide) (by decide) (by omega)
  have o81_14 : h' 81 14 = h 81 14 := fr 81 14 (by decide) (by decide) (by decide) (by omega)
  have o81_15 : h' 81 15 = h 81 15 := fr 81 15 (by decide) (by decide) (by decide) (by omega)
  have o81_20 : h' 81 20 = h 81 20 := fr 81 20 (by decide) (by decide) (by decide) (by omega)
  have o81_26 : h' 81 26 = h 81 26 := fr 81 26 (by decide) (by decide) (by decide) (by omega)
  have o81_27 : h' 81 27 = h 81 27 := fr 81 27 (by decide) (by decide) (by decide) (by omega)
  have o81_55 : h' 81 55 = h 81 55 := fr 81 55 (by decide) (by decide) (by decide) (by omega)
  have o82 : ∀ k, h' 82 k = h 82 k := fun k => fr 82 k (by decide) (by decide) (by decide) (by omega)
  have o83 : ∀ k, h' 83 k = h 83 k := fun k => fr 83 k (by decide) (by decide) (by decide) (by omega)
  have o84 : ∀ k, h' 84 k = h 84 k := fun k => fr 84 k (by decide) (by decide) (by decide) (by omega)
  have o85 : ∀ k, h' 85 k = h 85 k := fun k => fr 85 k (by decide) (by decide) (by decide) (by omega)
  have o86 : ∀ k, h' 86 k = h 86 k := fun k => fr 86 k (by decide) (by decide) (by decide) (by omega)
  have o87 : ∀ k, h' 87 k = h 87 k := fun k => fr 87 k (by decide) (by decide) (by decide) (by omega)
  have o88 : ∀ k, h' 88 k = h 88 k := fun k => fr 88 k (by decide) (by decide) (by decide) (by omega)
  have o89 : ∀ k, h' 89 k = h 89 k := fun k => fr 89 k (by decide) (by decide) (by decide) (by omega)
  have o90 : ∀ k, h' 90 k = h 90 k := fun k => fr 90 k (by decide) (by decide) (by decide) (by omega)
  have o93 : ∀ k, h' 93 k = h 93 k := fun k => fr 93 k (by decide) (by decide) (by decide) (by omega)
  have o94 : ∀ k, h' 94 k = h 94 k := fun k => fr 94 k (by decide) (by decide) (by decide) (by omega)
  have o95 : ∀ k, h' 95 k = h 95 k := fun k => fr 95 k (by decide) (by decide) (by decide) (by omega)
  have o96 : ∀ k, h' 96 k = h 96 k := fun k => fr 96 k (by decide) (by decide) (by decide) (by omega)
  have o97 : ∀ k, h' 97 k = h 97 k := fun k => fr 97 k (by decide) (by decide) (by decide) (by omega)
  have o98 : ∀ k, h' 98 k = h 98 k := fun k => fr 98 k (by decide) (by decide) (by decide) (by omega)
  have o99 : ∀ k, h' 99 k = h 99 k := fun k => fr 99 k (by decide) (by decide) (by decide) (by omega)
  have o102 : ∀ k, h' 102 k = h 102 k := fun k => fr 102 k (by decide) (by decide) (by decide) (by omega)
  have o103 : ∀ k, h' 103 k = h 103 k := fun k => fr 103 k (by decide) (by decide) (by decide) (by omega)
  have o104 : ∀ k, h' 104 k = h 104 k := fun k => fr 104 k (by decide) (by decide) (by decide) (by omega)
  have o122 : ∀ k, h' 122 k = h 122 k := fun k => fr 122 k (by decide) (by decide) (by decide) (by omega)
  have o123 : ∀ k, h' 123 k = h 123 k := fun k => fr 123 k (by decide) (by decide) (by decide) (by omega)
  have o124 : ∀ k, h' 124 k = h 124 k := fun k => fr 124 k (by decide) (by decide) (by decide) (by omega)
  unfold MI
  simp only [o81_0, o81_1, o81_11, o81_14, o81_15, o81_20, o81_26, o81_27, o81_55, o82, o83, o84, o85, o86, o87, o88, o89, o90, o93, o94, o95, o96, o97, o98, o99, o102, o103, o104, o122, o123, o124]
  exact x
theorem m_tryStep (d : Nat) (τ : TT) (h : HT) (hT : TK τ) (T : TR) (s : Int) (hs : f_okc s) (tm : TM h T) (ok : t_ok (h 81 1) T) (hn : 3 ≤ h 81 1 ∧ h 81 1 ≤ 9) (x : MI h) : S_ mX12_tryStep (d + 2) 0 0 [.inr (some 81), .inl s] τ h (Zi τ fun v h' => t_says (h 81 1) (h 81 15) (h 95) (h 96) T s v h' ∧ FRt h h') := by
  have t1 := tm.1
  have o1 := ok.1
  have hsr := f_okc_r hs
  have oo0 := hs
  unfold f_okc at oo0
  refine S_go (k := 0) (ls := [some (.inr (some 81)), some (.inl s)]) (by decide) rfl (Nat.le_of_ble_eq_true rfl) rfl ?_
  refine G_aload_n (i := 0) dX12_tryStep_0 rfl rfl ?_
  refine G_getI (v := h 81 43) fX12_141 rfl dX12_tryStep_1 (o81 hT) rfl ?_
  refine G_sipush dX12_tryStep_4 (by decide) ?_
  refine G_icmp_ne (tgt := 12) dX12_tryStep_7 (by decide) (by omega) (by decide) (fun c_1 => ?_) (fun c_1 => ?_)
  · refine G_aload_n (i := 0) dX12_tryStep_12 rfl rfl ?_
    refine G_dup dX12_tryStep_13 ?_
    refine G_getI (v := h 81 43) fX12_141 rfl dX12_tryStep_14 (o81 hT) rfl ?_
    refine G_iconst dX12_tryStep_17 ?_
    refine G_iadd dX12_tryStep_18 ?_
    refine G_putI fX12_141 dX12_tryStep_19 (o81 hT) ?_
    generalize hX : hs_ h 81 43 (h 81 43 + 1) = X
    have frX : FRt h X := fun a i z1 z2 z3 z4 => by rw [← hX]; exact if_neg fun z => (z4 z.1).2 z.2
    have X1 : X 81 1 = h 81 1 := frX 81 1 (by decide) (by decide) (by decide) (by omega)
    have X15 : X 81 15 = h 81 15 := frX 81 15 (by decide) (by decide) (by decide) (by omega)
    have X95 : X 95 = h 95 := funext fun k => frX 95 k (by decide) (by decide) (by decide) (by omega)
    have X96 : X 96 = h 96 := funext fun k => frX 96 k (by decide) (by decide) (by decide) (by omega)
    have tmX : TM X (T.1 + 1, T.2) := ⟨by rw [← hX, hs_eq]; exact congrArg (· + 1) tm.1, by rw [← hX, hs_ni (by decide)]; exact tm.2.1, fun p hp => by rw [X1] at hp; rw [← hX, hs_na (by decide), hs_na (by decide), hs_na (by decide)]; exact tm.2.2 p hp⟩
    have okX : t_ok (X 81 1) (T.1 + 1, T.2) := by rw [X1]; exact ⟨by simp only; omega, ok.2⟩
    have xX := MI_FRt frX x
    refine G_iload_n (i := 1) dX12_tryStep_22 rfl rfl ?_
    refine G_bipush dX12_tryStep_23 (by decide) ?_
    refine G_icmp_lt (tgt := 39) dX12_tryStep_25 (by decide) (by omega) (by decide) (fun c_2 => ?_) (fun c_2 => ?_)
    · refine G_aload_n (i := 0) dX12_tryStep_39 rfl rfl ?_
      refine G_iload_n (i := 1) dX12_tryStep_40 rfl rfl ?_
      refine G_bipush dX12_tryStep_41 (by decide) ?_
      have dd := f_okc_d hs (by omega)
      have oo := hs
      unfold f_okc at oo
      refine G_idiv dX12_tryStep_43 (by omega) (by decide) ?_
      refine G_iload_n (i := 1) dX12_tryStep_44 rfl rfl ?_
      refine G_bipush dX12_tryStep_45 (by decide) ?_
      refine G_irem dX12_tryStep_47 (by omega) (by decide) ?_
      refine G_cVi (as := [.inl (s.tdiv 10), .inl (s.tmod 10)]) qX12_288 (m_tryPass d τ X hT (T.1 + 1, T.2) (s.tdiv 10) (s.tmod 10) (by omega) (by omega) tmX okX (by omega)) rfl rfl (Nat.le_of_ble_eq_true rfl) (o81 hT) dX12_tryStep_48 (fun v1 g e2 => ?_)
      rw [X1] at e2
      obtain ⟨p1, p2, p3⟩ := e2
      have hv1 : v1 = 0 ∨ v1 = 1 := by cases hq : t_pass (h 81 1) (T.1 + 1, T.2) (s.tdiv 10) (s.tmod 10) with | none => exact Or.inl (p1 hq).1 | some T2 => exact Or.inr (p2 T2 hq).1
      refine G_zretZ rfl (by omega) dX12_tryStep_51 ?_
      have es : t_step (h 81 1) (h 81 15) (h 95) (h 96) T s = t_pass (h 81 1) (T.1 + 1, T.2) (s.tdiv 10) (s.tmod 10) := by unfold t_step; rw [if_neg (by omega), if_neg (by omega)]
      refine ⟨⟨fun z => ?_, fun T' z => ?_⟩, frX.tr p3⟩
      · rw [es] at z; exact (p1 z).1
      · rw [es] at z; exact p2 T' z
    · refine G_aload_n (i := 0) dX12_tryStep_28 rfl rfl ?_
      refine G_iload_n (i := 1) dX12_tryStep_29 rfl rfl ?_
      refine G_bipush dX12_tryStep_30 (by decide) ?_
      refine G_isub dX12_tryStep_32 ?_
      refine G_cVi (as := [.inl (s - 100)]) qX12_285 (m_tryWalk d τ X hT (T.1 + 1, T.2) (s - 100) (by omega) tmX okX (by omega) xX) rfl rfl (Nat.le_of_ble_eq_true rfl) (o81 hT) dX12_tryStep_33 (fun v1 g e2 => ?_)
      rw [X1, X15, X95, X96] at e2
      obtain ⟨p1, p2, p3⟩ := e2
      have hv1 : v1 = 0 ∨ v1 = 1 := by cases hq : t_walk (h 81 1) (h 81 15) (h 95) (h 96) (T.1 + 1, T.2) (s - 100) with | none => exact Or.inl (p1 hq) | some T2 => exact Or.inr (p2 T2 hq).1
      refine G_goto (tgt := 51) dX12_tryStep_36 (by decide) ?_
      refine G_zretZ rfl (by omega) dX12_tryStep_51 ?_
      have es : t_step (h 81 1) (h 81 15) (h 95) (h 96) T s = t_walk (h 81 1) (h 81 15) (h 95) (h 96) (T.1 + 1, T.2) (s - 100) := by unfold t_step; rw [if_neg (by omega), if_pos (by omega)]
      refine ⟨⟨fun z => ?_, fun T' z => ?_⟩, frX.tr p3⟩
      · rw [es] at z; exact p1 z
      · rw [es] at z; exact p2 T' z
  · refine G_iconst dX12_tryStep_10 ?_
    refine G_zretZ rfl (by decide) dX12_tryStep_11 ?_
    refine ⟨⟨fun _ => rfl, fun T' z => ?_⟩, FRt.rf⟩
    unfold t_step at z; rw [if_pos (by omega)] at z; cases z

def sl_one (a s : Int) (k : Nat) (x : Int) : List Int := if (k : Int) = a ∧ s = 0 then [] else if (k : Int) = a ∧ s = 1 then [o_un x] else if (k : Int) = a ∧ s = 2 then [x, x] else [x]
/-- the steps of a figure with the slip s at a -/
def sl_l (a s : Int) : Nat → List Int → List Int
  | _, [] => []
  | k, x :: t => sl_one a s k x ++ sl_l a s (k + 1) t
def t_res (r : Option TR) (R : Int) : Int := match r with
  | none => 0
  | some T => if T.2.1 = R then 1 else 0
theorem t_res_r (r : Option TR) (R : Int) : t_res r R = 0 ∨ t_res r R = 1 := by
  cases r with
  | none => exact Or.inl rfl
  | some T => unfold t_res; simp only; split <;> simp
theorem figL_drop {h : HT} {f k : Nat} (hk : k < (h 102 f).toNat) : (figL h f).drop k = h 103 (300 * f + k) :: (figL h f).drop (k + 1) := by
  have h1 : k < (figL h f).length := by rw [figL_len]; exact hk
  rw [List.drop_eq_getElem_cons h1]
  congr 1
  have := figL_at (h := h) (f := f) hk
  rw [List.getElem?_eq_getElem h1] at this
  exact Option.some.inj this
theorem sl_s {h : HT} {f k : Nat} {a s : Int} (hk : k < (h 102 f).toNat) : sl_l a s k ((figL h f).drop k) = sl_one a s k (h 103 (300 * f + k)) ++ sl_l a s (k + 1) ((figL h f).drop (k + 1)) := by
  rw [figL_drop hk]; rfl
theorem m_makes_L (d : Nat) (τ : TT) (h : HT) (hT : TK τ) (f : Nat) (a s : Int) (ra : -1 ≤ a ∧ a ≤ 1000) (rs : -1 ≤ s ∧ s ≤ 2) (hn : 3 ≤ h 81 1 ∧ h 81 1 ≤ 9) (x : MI h) (hf2 : (f : Int) < h 81 26) : ∀ (n_ : Nat) (g : HT) (k : Nat) (T : TR), (h 102 f).toNat - k < n_ → TM g T → t_ok (h 81 1) T → FRt h g → (k : Int) ≤ h 102 f → G_ mX12_makes (d + 3) 0 0 7 [some (.inr (some 81)), some (.inl (f : Int)), some (.inl a), some (.inl s), some (.inl (k : Int)), none] [] τ g (Zi τ fun v h' => v = t_res (t_run (h 81 1) (h 81 15) (h 95) (h 96) T (sl_l a s k ((figL h f).drop k))) (h 81 15) ∧ FRt h h') := by
  intro n_
  induction n_ with
  | zero => intro g k T hm_; exact absurd hm_ (Nat.not_lt_zero _)
  | succ n_ ih =>
    intro g k T hm_ tm okh fr hk
    have X1 : g 81 1 = h 81 1 := fr 81 1 (by decide) (by decide) (by decide) (by omega)
    have X15 : g 81 15 = h 81 15 := fr 81 15 (by decide) (by decide) (by decide) (by omega)
    have X95 : g 95 = h 95 := funext fun k => fr 95 k (by decide) (by decide) (by decide) (by omega)
    have X96 : g 96 = h 96 := funext fun k => fr 96 k (by decide) (by decide) (by decide) (by omega)
    have X102 : g 102 f = h 102 f := fr 102 f (by decide) (by decide) (by decide) (by omega)
    have okg : t_ok (g 81 1) T := by rw [X1]; exact okh
    have xg := MI_FRt fr x
    have hm := x.ma_ f hf2
    have hf10 := x.f_
    have hmr := x.r_
    have hmr2 := okh.2.1
    have tm2_ := tm.2.1
    refine G_iload dX12_makes_7 rfl ?_
    refine G_aload_n (i := 0) dX12_makes_9 rfl rfl ?_
    refine G_getR fX12_96 rfl dX12_makes_10 (o81 hT) (r81_28 hT) ?_
    refine G_iload_n (i := 1) dX12_makes_13 rfl rfl ?_
    refine G_iald (v := g 102 f) dX12_makes_14 (o102 hT) (by omega) rfl ?_
    refine G_icmp_ge (tgt := 105) dX12_makes_15 (by decide) (by omega) (by omega) (fun c_1 => ?_) (fun c_1 => ?_)
    · refine G_aload_n (i := 0) dX12_makes_105 rfl rfl ?_
      refine G_getI (v := g 81 42) fX12_138 rfl dX12_makes_106 (o81 hT) rfl ?_
      refine G_aload_n (i := 0) dX12_makes_109 rfl rfl ?_
      refine G_getI (v := g 81 15) fX12_57 rfl dX12_makes_110 (o81 hT) rfl ?_
      refine G_icmp_ne (tgt := 120) dX12_makes_113 (by decide) (by omega) (by omega) (fun c_2 => ?_) (fun c_2 => ?_)
      · refine G_iconst dX12_makes_120 ?_
        refine G_zretZ rfl (by decide) dX12_makes_121 ?_
        obtain rfl : k = (h 102 f).toNat := by omega
        have e0 : (figL h f).drop (h 102 f).toNat = [] := List.drop_eq_nil_of_le (by rw [figL_len]; exact Nat.le_refl _)
        rw [e0]
        refine ⟨?_, fr⟩
        show _ = (if T.2.1 = h 81 15 then 1 else 0)
        rw [← tm.2.1]
        first | rw [if_pos (by omega)] | rw [if_neg (by omega)]
      · refine G_iconst dX12_makes_116 ?_
        refine G_goto (tgt := 121) dX12_makes_117 (by decide) ?_
        refine G_zretZ rfl (by decide) dX12_makes_121 ?_
        obtain rfl : k = (h 102 f).toNat := by omega
        have e0 : (figL h f).drop (h 102 f).toNat = [] := List.drop_eq_nil_of_le (by rw [figL_len]; exact Nat.le_refl _)
        rw [e0]
        refine ⟨?_, fr⟩
        show _ = (if T.2.1 = h 81 15 then 1 else 0)
        rw [← tm.2.1]
        first | rw [if_pos (by omega)] | rw [if_neg (by omega)]
    · refine G_aload_n (i := 0) dX12_makes_18 rfl rfl ?_
      refine G_getR fX12_99 rfl dX12_makes_19 (o81 hT) (r81_29 hT) ?_
      refine G_sipush dX12_makes_22 (by decide) ?_
      refine G_iload_n (i := 1) dX12_makes_25 rfl rfl ?_
      refine G_imul dX12_makes_26 ?_
      refine G_iload dX12_makes_27 rfl ?_
      refine G_iadd dX12_makes_29 ?_
      refine G_iald (v := h 103 (300 * f + k)) dX12_makes_30 (o103 hT) (by omega) (fr 103 (300 * f + k) (by decide) (by decide) (by decide) (by omega)) ?_
      have hok := x.to_ f k hf2 (by omega)
      have hokr := f_okc_r hok
      refine G_istore (ls' := [some (.inr (some 81)), some (.inl (f : Int)), some (.inl a), some (.inl s), some (.inl (k : Int)), some (.inl (h 103 (300 * f + k)))]) dX12_makes_31 (by decide) rfl ?_
      refine G_iload dX12_makes_33 rfl ?_
      refine G_iload_n (i := 2) dX12_makes_35 rfl rfl ?_
      refine G_icmp_ne (tgt := 46) dX12_makes_36 (by decide) (by omega) (by omega) (fun c_3 => ?_) (fun c_3 => ?_)
      · refine G_aload_n (i := 0) dX12_makes_46 rfl rfl ?_
        refine G_iload dX12_makes_47 rfl ?_
        refine G_iload_n (i := 2) dX12_makes_49 rfl rfl ?_
        refine G_icmp_ne (tgt := 67) dX12_makes_50 (by decide) (by omega) (by omega) (fun _ => ?_) (fun q => absurd q c_3)
        refine G_iload dX12_makes_67 rfl ?_
        refine G_cVi (as := [.inl (h 103 (300 * f + k))]) qX12_294 (m_tryStep d τ g hT T (h 103 (300 * f + k)) hok tm okg (by omega) xg) rfl rfl (Nat.le_of_ble_eq_true rfl) (o81 hT) dX12_makes_69 (fun v1 g2 e2 => ?_)
        rw [X1, X15, X95, X96] at e2
        obtain ⟨⟨p1, p2⟩, p3⟩ := e2
        have hv1 : v1 = 0 ∨ v1 = 1 := by cases hq : t_step (h 81 1) (h 81 15) (h 95) (h 96) T (h 103 (300 * f + k)) with | none => exact Or.inl (p1 hq) | some T2 => exact Or.inr (p2 T2 hq).1
        refine G_if_ne (tgt := 77) dX12_makes_72 (by decide) (by omega) (fun c_4 => ?_) (fun c_4 => ?_)
        · refine G_iload dX12_makes_77 rfl ?_
          obtain ⟨T2, hq⟩ : ∃ T2, t_step (h 81 1) (h 81 15) (h 95) (h 96) T (h 103 (300 * f + k)) = some T2 := by cases hq : t_step (h 81 1) (h 81 15) (h 95) (h 96) T (h 103 (300 * f + k)) with | none => (have := p1 hq; omega) | some T2 => exact ⟨T2, rfl⟩
          have tm2 := (p2 T2 hq).2
          have ok2h := t_step_ok (by omega) (by omega) okh hok hq
          have Y1 : g2 81 1 = h 81 1 := (fr.tr p3) 81 1 (by decide) (by decide) (by decide) (by omega)
          have Y15 : g2 81 15 = h 81 15 := (fr.tr p3) 81 15 (by decide) (by decide) (by decide) (by omega)
          have Y95 : g2 95 = h 95 := funext fun k => (fr.tr p3) 95 k (by decide) (by decide) (by decide) (by omega)
          have Y96 : g2 96 = h 96 := funext fun k => (fr.tr p3) 96 k (by decide) (by decide) (by decide) (by omega)
          have ok2 : t_ok (g2 81 1) T2 := by rw [Y1]; exact ok2h
          have x2 := MI_FRt (fr.tr p3) x
          refine G_iload_n (i := 2) dX12_makes_79 rfl rfl ?_
          refine G_icmp_ne (tgt := 99) dX12_makes_80 (by decide) (by omega) (by omega) (fun _ => ?_) (fun q => absurd q c_3)
          refine G_iinc (ls' := [some (.inr (some 81)), some (.inl (f : Int)), some (.inl a), some (.inl s), some (.inl ((k : Int) + 1)), some (.inl (h 103 (300 * f + k)))]) dX12_makes_99 (by decide) rfl rfl ?_
          refine G_goto (tgt := 7) dX12_makes_102 (by decide) ?_
          refine G_lsub (ls' := [some (.inr (some 81)), some (.inl (f : Int)), some (.inl a), some (.inl s), some (.inl ((k : Int) + 1)), none]) (LS_same (LS_same (LS_same (LS_same (LS_same (LS_none LS_nil)))))) ?_
          have e1 : sl_one a s k (h 103 (300 * f + k)) = [(h 103 (300 * f + k))] := by unfold sl_one; rw [if_neg (by omega), if_neg (by omega), if_neg (by omega)]
          refine G_mono ?_ (ih g2 (k + 1) T2 (by omega) tm2 ok2h (fr.tr p3) (by omega))
          rintro r τ' h' ⟨q1, v, q2, q3, q4⟩
          refine ⟨q1, v, q2, ?_, q4⟩
          rw [sl_s (by omega), e1, List.singleton_append, t_run_1 hq]
          exact q3
        · refine G_iconst dX12_makes_75 ?_
          refine G_zretZ rfl (by decide) dX12_makes_76 ?_
          have hq : t_step (h 81 1) (h 81 15) (h 95) (h 96) T (h 103 (300 * f + k)) = none := by cases hq : t_step (h 81 1) (h 81 15) (h 95) (h 96) T (h 103 (300 * f + k)) with | none => rfl | some T2 => (have := (p2 T2 hq).1; omega)
          have e1 : ∃ l, sl_one a s k (h 103 (300 * f + k)) = (h 103 (300 * f + k)) :: l := by unfold sl_one; (repeat (first | rw [if_neg (by omega)] | rw [if_pos (by omega)])); (first | exact ⟨_, rfl⟩ | (split; (exact ⟨_, rfl⟩); (exact ⟨_, rfl⟩)))
          obtain ⟨l, e1⟩ := e1
          rw [sl_s (by omega), e1, List.cons_append, t_run_0 hq]
          exact ⟨rfl, fr.tr p3⟩
      · refine G_iload_n (i := 3) dX12_makes_39 rfl rfl ?_
        refine G_if_ne (tgt := 46) dX12_makes_40 (by decide) (by omega) (fun c_5 => ?_) (fun c_5 => ?_)
        · refine G_aload_n (i := 0) dX12_makes_46 rfl rfl ?_
          refine G_iload dX12_makes_47 rfl ?_
          refine G_iload_n (i := 2) dX12_makes_49 rfl rfl ?_
          refine G_icmp_ne (tgt := 67) dX12_makes_50 (by decide) (by omega) (by omega) (fun q => absurd c_3 q) (fun _ => ?_)
          refine G_iload_n (i := 3) dX12_makes_53 rfl rfl ?_
          refine G_iconst dX12_makes_54 ?_
          refine G_icmp_ne (tgt := 67) dX12_makes_55 (by decide) (by omega) (by decide) (fun c_6 => ?_) (fun c_6 => ?_)
          · refine G_iload dX12_makes_67 rfl ?_
            refine G_cVi (as := [.inl (h 103 (300 * f + k))]) qX12_294 (m_tryStep d τ g hT T (h 103 (300 * f + k)) hok tm okg (by omega) xg) rfl rfl (Nat.le_of_ble_eq_true rfl) (o81 hT) dX12_makes_69 (fun v1 g2 e2 => ?_)
            rw [X1, X15, X95, X96] at e2
            obtain ⟨⟨p1, p2⟩, p3⟩ := e2
            have hv1 : v1 = 0 ∨ v1 = 1 := by cases hq : t_step (h 81 1) (h 81 15) (h 95) (h 96) T (h 103 (300 * f + k)) with | none => exact Or.inl (p1 hq) | some T2 => exact Or.inr (p2 T2 hq).1
            refine G_if_ne (tgt := 77) dX12_makes_72 (by decide) (by omega) (fun c_7 => ?_) (fun c_7 => ?_)
            · refine G_iload dX12_makes_77 rfl ?_
              obtain ⟨T2, hq⟩ : ∃ T2, t_step (h 81 1) (h 81 15) (h 95) (h 96) T (h 103 (300 * f + k)) = some T2 := by cases hq : t_step (h 81 1) (h 81 15) (h 95) (h 96) T (h 103 (300 * f + k)) with | none => (have := p1 hq; omega) | some T2 => exact ⟨T2, rfl⟩
              have tm2 := (p2 T2 hq).2
              have ok2h := t_step_ok (by omega) (by omega) okh hok hq
              have Y1 : g2 81 1 = h 81 1 := (fr.tr p3) 81 1 (by decide) (by decide) (by decide) (by omega)
              have Y15 : g2 81 15 = h 81 15 := (fr.tr p3) 81 15 (by decide) (by decide) (by decide) (by omega)
              have Y95 : g2 95 = h 95 := funext fun k => (fr.tr p3) 95 k (by decide) (by decide) (by decide) (by omega)
              have Y96 : g2 96 = h 96 := funext fun k => (fr.tr p3) 96 k (by decide) (by decide) (by decide) (by omega)
              have ok2 : t_ok (g2 81 1) T2 := by rw [Y1]; exact ok2h
              have x2 := MI_FRt (fr.tr p3) x
              refine G_iload_n (i := 2) dX12_makes_79 rfl rfl ?_
              refine G_icmp_ne (tgt := 99) dX12_makes_80 (by decide) (by omega) (by omega) (fun q => absurd c_3 q) (fun _ => ?_)
              refine G_iload_n (i := 3) dX12_makes_83 rfl rfl ?_
              refine G_iconst dX12_makes_84 ?_
              refine G_icmp_ne (tgt := 99) dX12_makes_85 (by decide) (by omega) (by decide) (fun c_8 => ?_) (fun c_8 => ?_)
              · refine G_iinc (ls' := [some (.inr (some 81)), some (.inl (f : Int)), some (.inl a), some (.inl s), some (.inl ((k : Int) + 1)), some (.inl (h 103 (300 * f + k)))]) dX12_makes_99 (by decide) rfl rfl ?_
                refine G_goto (tgt := 7) dX12_makes_102 (by decide) ?_
                refine G_lsub (ls' := [some (.inr (some 81)), some (.inl (f : Int)), some (.inl a), some (.inl s), some (.inl ((k : Int) + 1)), none]) (LS_same (LS_same (LS_same (LS_same (LS_same (LS_none LS_nil)))))) ?_
                have e1 : sl_one a s k (h 103 (300 * f + k)) = [(h 103 (300 * f + k))] := by unfold sl_one; rw [if_neg (by omega), if_neg (by omega), if_neg (by omega)]
                refine G_mono ?_ (ih g2 (k + 1) T2 (by omega) tm2 ok2h (fr.tr p3) (by omega))
                rintro r τ' h' ⟨q1, v, q2, q3, q4⟩
                refine ⟨q1, v, q2, ?_, q4⟩
                rw [sl_s (by omega), e1, List.singleton_append, t_run_1 hq]
                exact q3
              · refine G_aload_n (i := 0) dX12_makes_88 rfl rfl ?_
                refine G_iload dX12_makes_89 rfl ?_
                refine G_cVi (as := [.inl (h 103 (300 * f + k))]) qX12_294 (m_tryStep d τ g2 hT T2 (h 103 (300 * f + k)) hok tm2 ok2 (by omega) x2) rfl rfl (Nat.le_of_ble_eq_true rfl) (o81 hT) dX12_makes_91 (fun v2 g3 e3 => ?_)
                rw [Y1, Y15, Y95, Y96] at e3
                obtain ⟨⟨r1, r2⟩, r3⟩ := e3
                have hv2 : v2 = 0 ∨ v2 = 1 := by cases hq : t_step (h 81 1) (h 81 15) (h 95) (h 96) T2 (h 103 (300 * f + k)) with | none => exact Or.inl (r1 hq) | some T3 => exact Or.inr (r2 T3 hq).1
                refine G_if_ne (tgt := 99) dX12_makes_94 (by decide) (by omega) (fun c_9 => ?_) (fun c_9 => ?_)
                · refine G_iinc (ls' := [some (.inr (some 81)), some (.inl (f : Int)), some (.inl a), some (.inl s), some (.inl ((k : Int) + 1)), some (.inl (h 103 (300 * f + k)))]) dX12_makes_99 (by decide) rfl rfl ?_
                  refine G_goto (tgt := 7) dX12_makes_102 (by decide) ?_
                  refine G_lsub (ls' := [some (.inr (some 81)), some (.inl (f : Int)), some (.inl a), some (.inl s), some (.inl ((k : Int) + 1)), none]) (LS_same (LS_same (LS_same (LS_same (LS_same (LS_none LS_nil)))))) ?_
                  have e1 : sl_one a s k (h 103 (300 * f + k)) = [(h 103 (300 * f + k)), (h 103 (300 * f + k))] := by unfold sl_one; rw [if_neg (by omega), if_neg (by omega), if_pos (by omega)]
                  obtain ⟨T3, hq3⟩ : ∃ T3, t_step (h 81 1) (h 81 15) (h 95) (h 96) T2 (h 103 (300 * f + k)) = some T3 := by cases hq3 : t_step (h 81 1) (h 81 15) (h 95) (h 96) T2 (h 103 (300 * f + k)) with | none => (have := r1 hq3; omega) | some T3 => exact ⟨T3, rfl⟩
                  have ok3h := t_step_ok (by omega) (by omega) ok2h hok hq3
                  refine G_mono ?_ (ih g3 (k + 1) T3 (by omega) (r2 T3 hq3).2 ok3h ((fr.tr p3).tr r3) (by omega))
                  rintro r τ' h' ⟨q1, v, q2, q3, q4⟩
                  refine ⟨q1, v, q2, ?_, q4⟩
                  rw [sl_s (by omega), e1, List.cons_append, List.singleton_append, t_run_1 hq, t_run_1 hq3]
                  exact q3
                · refine G_iconst dX12_makes_97 ?_
                  refine G_zretZ rfl (by decide) dX12_makes_98 ?_
                  have e1 : sl_one a s k (h 103 (300 * f + k)) = [(h 103 (300 * f + k)), (h 103 (300 * f + k))] := by unfold sl_one; rw [if_neg (by omega), if_neg (by omega), if_pos (by omega)]
                  have hq3 : t_step (h 81 1) (h 81 15) (h 95) (h 96) T2 (h 103 (300 * f + k)) = none := by cases hq3 : t_step (h 81 1) (h 81 15) (h 95) (h 96) T2 (h 103 (300 * f + k)) with | none => rfl | some T3 => (have := (r2 T3 hq3).1; omega)
                  rw [sl_s (by omega), e1, List.cons_append, List.singleton_append, t_run_1 hq, t_run_0 hq3]
                  exact ⟨rfl, (fr.tr p3).tr r3⟩
            · refine G_iconst dX12_makes_75 ?_
              refine G_zretZ rfl (by decide) dX12_makes_76 ?_
              have hq : t_step (h 81 1) (h 81 15) (h 95) (h 96) T (h 103 (300 * f + k)) = none := by cases hq : t_step (h 81 1) (h 81 15) (h 95) (h 96) T (h 103 (300 * f + k)) with | none => rfl | some T2 => (have := (p2 T2 hq).1; omega)
              have e1 : ∃ l, sl_one a s k (h 103 (300 * f + k)) = (h 103 (300 * f + k)) :: l := by unfold sl_one; (repeat (first | rw [if_neg (by omega)] | rw [if_pos (by omega)])); (first | exact ⟨_, rfl⟩ | (split; (exact ⟨_, rfl⟩); (exact ⟨_, rfl⟩)))
              obtain ⟨l, e1⟩ := e1
              rw [sl_s (by omega), e1, List.cons_append, t_run_0 hq]
              exact ⟨rfl, fr.tr p3⟩
          · refine G_aload_n (i := 0) dX12_makes_58 rfl rfl ?_
            refine G_iload dX12_makes_59 rfl ?_
            refine G_cVq (as := [.inl (h 103 (300 * f + k))]) qX12_234 (m_undoing (d + 2) τ g hT (h 103 (300 * f + k)) (by first | omega | grind [hs_, hf_])) rfl rfl (Nat.le_of_ble_eq_true rfl) (o81 hT) dX12_makes_61 ?_
            refine G_goto (tgt := 69) dX12_makes_64 (by decide) ?_
            refine G_cVi (as := [.inl (o_un (h 103 (300 * f + k)))]) qX12_294 (m_tryStep d τ g hT T (o_un (h 103 (300 * f + k))) (o_un_ok hok) tm okg (by omega) xg) rfl rfl (Nat.le_of_ble_eq_true rfl) (o81 hT) dX12_makes_69 (fun v1 g2 e2 => ?_)
            rw [X1, X15, X95, X96] at e2
            obtain ⟨⟨p1, p2⟩, p3⟩ := e2
            have hv1 : v1 = 0 ∨ v1 = 1 := by cases hq : t_step (h 81 1) (h 81 15) (h 95) (h 96) T (o_un (h 103 (300 * f + k))) with | none => exact Or.inl (p1 hq) | some T2 => exact Or.inr (p2 T2 hq).1
            refine G_if_ne (tgt := 77) dX12_makes_72 (by decide) (by omega) (fun c_10 => ?_) (fun c_10 => ?_)
            · refine G_iload dX12_makes_77 rfl ?_
              obtain ⟨T2, hq⟩ : ∃ T2, t_step (h 81 1) (h 81 15) (h 95) (h 96) T (o_un (h 103 (300 * f + k))) = some T2 := by cases hq : t_step (h 81 1) (h 81 15) (h 95) (h 96) T (o_un (h 103 (300 * f + k))) with | none => (have := p1 hq; omega) | some T2 => exact ⟨T2, rfl⟩
              have tm2 := (p2 T2 hq).2
              have ok2h := t_step_ok (by omega) (by omega) okh (o_un_ok hok) hq
              have Y1 : g2 81 1 = h 81 1 := (fr.tr p3) 81 1 (by decide) (by decide) (by decide) (by omega)
              have Y15 : g2 81 15 = h 81 15 := (fr.tr p3) 81 15 (by decide) (by decide) (by decide) (by omega)
              have Y95 : g2 95 = h 95 := funext fun k => (fr.tr p3) 95 k (by decide) (by decide) (by decide) (by omega)
              have Y96 : g2 96 = h 96 := funext fun k => (fr.tr p3) 96 k (by decide) (by decide) (by decide) (by omega)
              have ok2 : t_ok (g2 81 1) T2 := by rw [Y1]; exact ok2h
              have x2 := MI_FRt (fr.tr p3) x
              refine G_iload_n (i := 2) dX12_makes_79 rfl rfl ?_
              refine G_icmp_ne (tgt := 99) dX12_makes_80 (by decide) (by omega) (by omega) (fun q => absurd c_3 q) (fun _ => ?_)
              refine G_iload_n (i := 3) dX12_makes_83 rfl rfl ?_
              refine G_iconst dX12_makes_84 ?_
              refine G_icmp_ne (tgt := 99) dX12_makes_85 (by decide) (by omega) (by decide) (fun c_11 => ?_) (fun c_11 => ?_)
              · refine G_iinc (ls' := [some (.inr (some 81)), some (.inl (f : Int)), some (.inl a), some (.inl s), some (.inl ((k : Int) + 1)), some (.inl (h 103 (300 * f + k)))]) dX12_makes_99 (by decide) rfl rfl ?_
                refine G_goto (tgt := 7) dX12_makes_102 (by decide) ?_
                refine G_lsub (ls' := [some (.inr (some 81)), some (.inl (f : Int)), some (.inl a), some (.inl s), some (.inl ((k : Int) + 1)), none]) (LS_same (LS_same (LS_same (LS_same (LS_same (LS_none LS_nil)))))) ?_
                have e1 : sl_one a s k (h 103 (300 * f + k)) = [o_un (h 103 (300 * f + k))] := by unfold sl_one; rw [if_neg (by omega), if_pos (by omega)]
                refine G_mono ?_ (ih g2 (k + 1) T2 (by omega) tm2 ok2h (fr.tr p3) (by omega))
                rintro r τ' h' ⟨q1, v, q2, q3, q4⟩
                refine ⟨q1, v, q2, ?_, q4⟩
                rw [sl_s (by omega), e1, List.singleton_append, t_run_1 hq]
                exact q3
              · refine G_aload_n (i := 0) dX12_makes_88 rfl rfl ?_
                refine G_iload dX12_makes_89 rfl ?_
                refine G_cVi (as := [.inl (h 103 (300 * f + k))]) qX12_294 (m_tryStep d τ g2 hT T2 (h 103 (300 * f + k)) hok tm2 ok2 (by omega) x2) rfl rfl (Nat.le_of_ble_eq_true rfl) (o81 hT) dX12_makes_91 (fun v2 g3 e3 => ?_)
                rw [Y1, Y15, Y95, Y96] at e3
                obtain ⟨⟨r1, r2⟩, r3⟩ := e3
                have hv2 : v2 = 0 ∨ v2 = 1 := by cases hq : t_step (h 81 1) (h 81 15) (h 95) (h 96) T2 (h 103 (300 * f + k)) with | none => exact Or.inl (r1 hq) | some T3 => exact Or.inr (r2 T3 hq).1
                refine G_if_ne (tgt := 99) dX12_makes_94 (by decide) (by omega) (fun c_12 => ?_) (fun c_12 => ?_)
                · refine G_iinc (ls' := [some (.inr (some 81)), some (.inl (f : Int)), some (.inl a), some (.inl s), some (.inl ((k : Int) + 1)), some (.inl (h 103 (300 * f + k)))]) dX12_makes_99 (by decide) rfl rfl ?_
                  refine G_goto (tgt := 7) dX12_makes_102 (by decide) ?_
                  exfalso; omega
                · refine G_iconst dX12_makes_97 ?_
                  refine G_zretZ rfl (by decide) dX12_makes_98 ?_
                  exfalso; omega
            · refine G_iconst dX12_makes_75 ?_
              refine G_zretZ rfl (by decide) dX12_makes_76 ?_
              have hq : t_step (h 81 1) (h 81 15) (h 95) (h 96) T (o_un (h 103 (300 * f + k))) = none := by cases hq : t_step (h 81 1) (h 81 15) (h 95) (h 96) T (o_un (h 103 (300 * f + k))) with | none => rfl | some T2 => (have := (p2 T2 hq).1; omega)
              have e1 : ∃ l, sl_one a s k (h 103 (300 * f + k)) = (o_un (h 103 (300 * f + k))) :: l := by unfold sl_one; (repeat (first | rw [if_neg (by omega)] | rw [if_pos (by omega)])); (first | exact ⟨_, rfl⟩ | (split; (exact ⟨_, rfl⟩); (exact ⟨_, rfl⟩)))
              obtain ⟨l, e1⟩ := e1
              rw [sl_s (by omega), e1, List.cons_append, t_run_0 hq]
              exact ⟨rfl, fr.tr p3⟩
        · refine G_goto (tgt := 99) dX12_makes_43 (by decide) ?_
          refine G_iinc (ls' := [some (.inr (some 81)), some (.inl (f : Int)), some (.inl a), some (.inl s), some (.inl ((k : Int) + 1)), some (.inl (h 103 (300 * f + k)))]) dX12_makes_99 (by decide) rfl rfl ?_
          refine G_goto (tgt := 7) dX12_makes_102 (by decide) ?_
          refine G_lsub (ls' := [some (.inr (some 81)), some (.inl (f : Int)), some (.inl a), some (.inl s), some (.inl ((k : Int) + 1)), none]) (LS_same (LS_same (LS_same (LS_same (LS_same (LS_none LS_nil)))))) ?_
          have e1 : sl_one a s k (h 103 (300 * f + k)) = [] := by unfold sl_one; rw [if_pos (by omega)]
          refine G_mono ?_ (ih g (k + 1) T (by omega) tm okh fr (by omega))
          rintro r τ' h' ⟨q1, v, q2, q3, q4⟩
          refine ⟨q1, v, q2, ?_, q4⟩
          rw [sl_s (by omega), e1, List.nil_append]
          exact q3

theorem t_0_ok {h : HT} (x : MI h) (hn : h 81 1 ≤ 9) : t_ok (h 81 1) (t_0 h) := ⟨⟨Int.le_refl 0, (show (0 : Int) ≤ 300 by decide)⟩, ⟨Int.le_refl 0, (show (0 : Int) ≤ 100 by decide)⟩, fun p hp => ⟨by simp only [t_0]; omega, hp⟩, fun p q _ _ e => by simp only [t_0] at e; omega, fun p hp => x.be_ p (by omega), fun p _ => ⟨Int.le_refl _, (show (0 : Int) ≤ 2 by decide)⟩⟩
theorem m_makes (d : Nat) (τ : TT) (h : HT) (hT : TK τ) (f : Nat) (a s : Int) (ra : -1 ≤ a ∧ a ≤ 1000) (rs : -1 ≤ s ∧ s ≤ 2) (hn : 3 ≤ h 81 1 ∧ h 81 1 ≤ 9) (x : MI h) (hf2 : (f : Int) < h 81 26) : S_ mX12_makes (d + 3) 0 0 [.inr (some 81), .inl (f : Int), .inl a, .inl s] τ h (Zi τ fun v h' => v = t_res (t_run (h 81 1) (h 81 15) (h 95) (h 96) (t_0 h) (sl_l a s 0 (figL h f))) (h 81 15) ∧ FRt h h') := by
  refine S_go (k := 2) (ls := [some (.inr (some 81)), some (.inl (f : Int)), some (.inl a), some (.inl s), none, none]) (by decide) rfl (Nat.le_of_ble_eq_true rfl) rfl ?_
  refine G_aload_n (i := 0) dX12_makes_0 rfl rfl ?_
  refine G_cVv (as := []) qX12_291 (m_tryBegin (d + 2) τ h hT (by omega)) rfl rfl (Nat.le_of_ble_eq_true rfl) (o81 hT) dX12_makes_1 (fun g e2 => ?_)
  obtain ⟨tm, fr⟩ := e2
  refine G_iconst dX12_makes_4 ?_
  refine G_istore (ls' := [some (.inr (some 81)), some (.inl (f : Int)), some (.inl a), some (.inl s), some (.inl 0), none]) dX12_makes_5 (by decide) rfl ?_
  exact m_makes_L d τ h hT f a s ra rs hn x hf2 _ g 0 (t_0 h) (Nat.lt_succ_self _) tm (t_0_ok x hn.2) fr (by have := x.ma_ f hf2; omega)

theorem sl_none {s : Int} : ∀ (l : List Int) (k : Nat), sl_l (-1) s k l = l
  | [], _ => rfl
  | x :: t, k => by
    show sl_one (-1) s k x ++ sl_l (-1) s (k + 1) t = x :: t
    rw [sl_none t (k + 1)]
    unfold sl_one
    rw [if_neg (by omega), if_neg (by omega), if_neg (by omega)]
    rfl
def f_right (h : HT) (f : Int) : Int := if ¬ (0 ≤ f ∧ f ≤ h 81 26 - 1) then -1 else if h 81 11 = 0 then -3 else t_res (t_run (h 81 1) (h 81 15) (h 95) (h 96) (t_0 h) (figL h f.toNat)) (h 81 15)
theorem m_right (d : Nat) (τ : TT) (h : HT) (hT : TK τ) (f : Int) (r_f : -2147483648 ≤ f ∧ f ≤ 2147483647) (x : MI h) : S_ mX12_right (d + 4) 0 0 [.inr (some 81), .inl f] τ h (Zi τ fun v h' => v = f_right h f ∧ FRt h h') := by
  have hd1 := x.d1
  have hd3 := x.d3
  have hf10 := x.f_
  refine S_go (k := 0) (ls := [some (.inr (some 81)), some (.inl f)]) (by decide) rfl (Nat.le_of_ble_eq_true rfl) rfl ?_
  refine G_aload_n (i := 0) dX12_right_0 rfl rfl ?_
  refine G_iload_n (i := 1) dX12_right_1 rfl rfl ?_
  refine G_cVq (as := [.inl f]) qX12_244 (m_isFigure (d + 2) τ h hT f (by omega) x.f_) rfl rfl (Nat.le_of_ble_eq_true rfl) (o81 hT) dX12_right_2 ?_
  refine G_ifb_ne (tgt := 10) dX12_right_5 (by decide) (fun c_1 => ?_) (fun c_1 => ?_)
  · refine G_aload_n (i := 0) dX12_right_10 rfl rfl ?_
    refine G_getI (v := h 81 11) fX12_44 rfl dX12_right_11 (o81 hT) rfl ?_
    refine G_if_ne (tgt := 20) dX12_right_14 (by decide) (by omega) (fun c_2 => ?_) (fun c_2 => ?_)
    · refine G_aload_n (i := 0) dX12_right_20 rfl rfl ?_
      refine G_iload_n (i := 1) dX12_right_21 rfl rfl ?_
      obtain ⟨F, rfl⟩ : ∃ F : Nat, f = (F : Int) := ⟨f.toNat, by omega⟩
      refine G_iconst dX12_right_22 ?_
      refine G_iconst dX12_right_23 ?_
      refine G_cVi (as := [.inl (F : Int), .inl (-1), .inl (-1)]) qX12_297 (m_makes d τ h hT F (-1) (-1) (by decide) (by decide) (by omega) x (by omega)) rfl rfl (Nat.le_of_ble_eq_true rfl) (o81 hT) dX12_right_24 (fun v1 g e2 => ?_)
      obtain ⟨p1, p2⟩ := e2
      rw [sl_none] at p1
      have hv1 := t_res_r (t_run (h 81 1) (h 81 15) (h 95) (h 96) (t_0 h) (figL h F)) (h 81 15)
      rw [← p1] at hv1
      refine G_if_eq (tgt := 34) dX12_right_27 (by decide) (by omega) (fun c_3 => ?_) (fun c_3 => ?_)
      · refine G_iconst dX12_right_34 ?_
        refine G_iretZ rfl dX12_right_35 ?_
        refine ⟨?_, p2⟩
        unfold f_right; rw [if_neg (by omega), if_neg (by omega), show ((F : Int)).toNat = F from rfl, ← p1]
        omega
      · refine G_iconst dX12_right_30 ?_
        refine G_goto (tgt := 35) dX12_right_31 (by decide) ?_
        refine G_iretZ rfl dX12_right_35 ?_
        refine ⟨?_, p2⟩
        unfold f_right; rw [if_neg (by omega), if_neg (by omega), show ((F : Int)).toNat = F from rfl, ← p1]
        omega
    · refine G_bipush dX12_right_17 (by decide) ?_
      refine G_iretZ rfl dX12_right_19 ?_
      exact ⟨by unfold f_right; (repeat (first | rw [if_pos (by omega)] | rw [if_neg (by omega)])), FRt.rf⟩
  · refine G_iconst dX12_right_8 ?_
    refine G_iretZ rfl dX12_right_9 ?_
    exact ⟨by unfold f_right; (repeat (first | rw [if_pos (by omega)] | rw [if_neg (by omega)])), FRt.rf⟩

def f_okq (h : HT) (f q : Nat) : Int := t_res (t_run (h 81 1) (h 81 15) (h 95) (h 96) (t_0 h) (sl_l ((q / 3 : Nat) : Int) ((q % 3 : Nat) : Int) 0 (figL h f))) (h 81 15)
/-- the i-th of those that are so, or how many -/
def sc (ok : Nat → Int) (i : Int) : Nat → Nat → Int → Int
  | 0, _, c => if i = -1 then c else -1
  | n + 1, q, c => if ok q = 1 then (if c = i then 10 * ((q / 3 : Nat) : Int) + ((q % 3 : Nat) : Int) else sc ok i n (q + 1) (c + 1)) else sc ok i n (q + 1) c
def f_slips (h : HT) (f i : Int) : Int := if ¬ (0 ≤ f ∧ f ≤ h 81 26 - 1) ∨ i < -1 then -1 else if h 81 11 = 0 then -3 else sc (f_okq h f.toNat) i (3 * (h 102 f.toNat).toNat) 0 0
theorem t_0_fr {h g : HT} (fr : FRt h g) : t_0 g = t_0 h := by
  unfold t_0; rw [show g 89 = h 89 from funext fun k => fr 89 k (by decide) (by decide) (by decide) (by omega)]
theorem figL_fr {h g : HT} (fr : FRt h g) (f : Nat) : figL g f = figL h f := by
  unfold figL; rw [show g 102 = h 102 from funext fun k => fr 102 k (by decide) (by decide) (by decide) (by omega), show g 103 = h 103 from funext fun k => fr 103 k (by decide) (by decide) (by decide) (by omega)]
theorem okq_fr {h g : HT} (fr : FRt h g) (f q : Nat) : f_okq g f q = f_okq h f q := by
  unfold f_okq
  rw [t_0_fr fr, figL_fr fr, show g 95 = h 95 from funext fun k => fr 95 k (by decide) (by decide) (by decide) (by omega), show g 96 = h 96 from funext fun k => fr 96 k (by decide) (by decide) (by decide) (by omega), fr 81 1 (by decide) (by decide) (by decide) (by omega), fr 81 15 (by decide) (by decide) (by decide) (by omega)]
theorem okq_r (h : HT) (f q : Nat) : f_okq h f q = 0 ∨ f_okq h f q = 1 := t_res_r _ _
theorem m_slips_L (d : Nat) (τ : TT) (h : HT) (hT : TK τ) (F : Nat) (j : Int) (rj : -1 ≤ j ∧ j ≤ 2147483647) (hn : 3 ≤ h 81 1 ∧ h 81 1 ≤ 9) (x : MI h) (hf2 : (F : Int) < h 81 26) : ∀ (n_ : Nat) (g : HT) (q : Nat) (c : Nat), 3 * (h 102 F).toNat - q < n_ → FRt h g → (q : Int) ≤ 3 * h 102 F → c ≤ q → G_ mX12_slips (d + 4) 0 0 30 [some (.inr (some 81)), some (.inl (F : Int)), some (.inl j), some (.inl (c : Int)), some (.inl (q : Int))] [] τ g (Zi τ fun v h' => v = sc (f_okq h F) j (3 * (h 102 F).toNat - q) q (c : Int) ∧ FRt h h') := by
  intro n_
  induction n_ with
  | zero => intro g q c hm_; exact absurd hm_ (Nat.not_lt_zero _)
  | succ n_ ih =>
    intro g q c hm_ fr hq hc
    have X1 : g 81 1 = h 81 1 := fr 81 1 (by decide) (by decide) (by decide) (by omega)
    have X26 : g 81 26 = h 81 26 := fr 81 26 (by decide) (by decide) (by decide) (by omega)
    have X102 : g 102 F = h 102 F := fr 102 F (by decide) (by decide) (by decide) (by omega)
    have xg := MI_FRt fr x
    have hm := x.ma_ F hf2
    have hf10 := x.f_
    refine G_iload dX12_slips_30 rfl ?_
    refine G_iconst dX12_slips_32 ?_
    refine G_aload_n (i := 0) dX12_slips_33 rfl rfl ?_
    refine G_getR fX12_96 rfl dX12_slips_34 (o81 hT) (r81_28 hT) ?_
    refine G_iload_n (i := 1) dX12_slips_37 rfl rfl ?_
    refine G_iald (v := g 102 F) dX12_slips_38 (o102 hT) (by omega) rfl ?_
    refine G_imul dX12_slips_39 ?_
    refine G_icmp_ge (tgt := 89) dX12_slips_40 (by decide) (by omega) (by omega) (fun c_1 => ?_) (fun c_1 => ?_)
    · refine G_iload_n (i := 2) dX12_slips_89 rfl rfl ?_
      refine G_iconst dX12_slips_90 ?_
      refine G_icmp_ne (tgt := 98) dX12_slips_91 (by decide) (by omega) (by decide) (fun c_2 => ?_) (fun c_2 => ?_)
      · refine G_iconst dX12_slips_98 ?_
        refine G_iretZ rfl dX12_slips_99 ?_
        refine ⟨?_, fr⟩
        rw [show 3 * (h 102 F).toNat - q = 0 by omega]
        show _ = (if j = -1 then (c : Int) else -1)
        first | rw [if_pos (by omega)] | rw [if_neg (by omega)]
      · refine G_iload_n (i := 3) dX12_slips_94 rfl rfl ?_
        refine G_goto (tgt := 99) dX12_slips_95 (by decide) ?_
        refine G_iretZ rfl dX12_slips_99 ?_
        refine ⟨?_, fr⟩
        rw [show 3 * (h 102 F).toNat - q = 0 by omega]
        show _ = (if j = -1 then (c : Int) else -1)
        first | rw [if_pos (by omega)] | rw [if_neg (by omega)]
    · refine G_aload_n (i := 0) dX12_slips_43 rfl rfl ?_
      refine G_iload_n (i := 1) dX12_slips_44 rfl rfl ?_
      refine G_iload dX12_slips_45 rfl ?_
      refine G_iconst dX12_slips_47 ?_
      refine G_idiv dX12_slips_48 (by omega) (by decide) ?_
      refine G_iload dX12_slips_49 rfl ?_
      refine G_iconst dX12_slips_51 ?_
      refine G_irem dX12_slips_52 (by omega) (by decide) ?_
      refine G_cVi (as := [.inl (F : Int), .inl ((q : Int).tdiv 3), .inl ((q : Int).tmod 3)]) qX12_297 (m_makes d τ g hT F ((q : Int).tdiv 3) ((q : Int).tmod 3) ⟨by have := Int.tdiv_nonneg (a := (q : Int)) (b := 3) (by omega) (by decide); omega, by have := Int.tdiv_le_self 3 (a := (q : Int)) (by omega); omega⟩ ⟨by have := Int.tmod_nonneg 3 (a := (q : Int)) (by omega); omega, by have := Int.tmod_lt_of_pos (q : Int) (b := 3) (by decide); omega⟩ (by omega) xg (by omega)) rfl rfl (Nat.le_of_ble_eq_true rfl) (o81 hT) dX12_slips_53 (fun v1 g2 e2 => ?_)
      obtain ⟨p1, p2⟩ := e2
      have e3 : (q : Int).tdiv 3 = ((q / 3 : Nat) : Int) := rfl
      have e4 : (q : Int).tmod 3 = ((q % 3 : Nat) : Int) := rfl
      have hok : v1 = f_okq h F q := by rw [p1, ← okq_fr fr]; rfl
      have hr := okq_r h F q
      rw [← hok] at hr
      refine G_if_ne (tgt := 62) dX12_slips_56 (by decide) (by omega) (fun c_3 => ?_) (fun c_3 => ?_)
      · refine G_iload_n (i := 3) dX12_slips_62 rfl rfl ?_
        refine G_iload_n (i := 2) dX12_slips_63 rfl rfl ?_
        refine G_icmp_ne (tgt := 80) dX12_slips_64 (by decide) (by omega) (by omega) (fun c_4 => ?_) (fun c_4 => ?_)
        · refine G_iinc (ls' := [some (.inr (some 81)), some (.inl (F : Int)), some (.inl j), some (.inl ((c : Int) + 1)), some (.inl (q : Int))]) dX12_slips_80 (by decide) rfl rfl ?_
          refine G_iinc (ls' := [some (.inr (some 81)), some (.inl (F : Int)), some (.inl j), some (.inl ((c : Int) + 1)), some (.inl ((q : Int) + 1))]) dX12_slips_83 (by decide) rfl rfl ?_
          refine G_goto (tgt := 30) dX12_slips_86 (by decide) ?_
          refine G_mono ?_ (ih g2 (q + 1) (c + 1) (by omega) (fr.tr p2) (by omega) (by omega))
          rintro r τ' h' ⟨q1, v, q2, q3, q4⟩
          refine ⟨q1, v, q2, ?_, q4⟩
          rw [show 3 * (h 102 F).toNat - q = (3 * (h 102 F).toNat - (q + 1)) + 1 by omega]
          show v = (if f_okq h F q = 1 then (if (c : Int) = j then _ else sc (f_okq h F) j _ (q + 1) ((c : Int) + 1)) else sc (f_okq h F) j _ (q + 1) (c : Int))
          rw [if_pos (by omega), if_neg (by assumption)]
          exact q3
        · refine G_bipush dX12_slips_67 (by decide) ?_
          refine G_iload dX12_slips_69 rfl ?_
          refine G_iconst dX12_slips_71 ?_
          refine G_idiv dX12_slips_72 (by omega) (by decide) ?_
          refine G_imul dX12_slips_73 ?_
          refine G_iload dX12_slips_74 rfl ?_
          refine G_iconst dX12_slips_76 ?_
          refine G_irem dX12_slips_77 (by omega) (by decide) ?_
          refine G_iadd dX12_slips_78 ?_
          refine G_iretZ rfl dX12_slips_79 ?_
          refine ⟨?_, fr.tr p2⟩
          rw [show 3 * (h 102 F).toNat - q = (3 * (h 102 F).toNat - (q + 1)) + 1 by omega]
          show _ = (if f_okq h F q = 1 then (if (c : Int) = j then _ else _) else _)
          rw [if_pos (by omega), if_pos (by assumption)]
          rfl
      · refine G_goto (tgt := 83) dX12_slips_59 (by decide) ?_
        refine G_iinc (ls' := [some (.inr (some 81)), some (.inl (F : Int)), some (.inl j), some (.inl (c : Int)), some (.inl ((q : Int) + 1))]) dX12_slips_83 (by decide) rfl rfl ?_
        refine G_goto (tgt := 30) dX12_slips_86 (by decide) ?_
        refine G_mono ?_ (ih g2 (q + 1) c (by omega) (fr.tr p2) (by omega) (by omega))
        rintro r τ' h' ⟨q1, v, q2, q3, q4⟩
        refine ⟨q1, v, q2, ?_, q4⟩
        rw [show 3 * (h 102 F).toNat - q = (3 * (h 102 F).toNat - (q + 1)) + 1 by omega]
        show v = (if f_okq h F q = 1 then (if (c : Int) = j then _ else sc (f_okq h F) j _ (q + 1) ((c : Int) + 1)) else sc (f_okq h F) j _ (q + 1) (c : Int))
        rw [if_neg (by omega)]
        exact q3

theorem m_slips (d : Nat) (τ : TT) (h : HT) (hT : TK τ) (f j : Int) (r_f : -2147483648 ≤ f ∧ f ≤ 2147483647) (r_j : -2147483648 ≤ j ∧ j ≤ 2147483647) (x : MI h) : S_ mX12_slips (d + 4) 0 0 [.inr (some 81), .inl f, .inl j] τ h (Zi τ fun v h' => v = f_slips h f j ∧ FRt h h') := by
  have hd1 := x.d1
  have hd3 := x.d3
  have hf10 := x.f_
  refine S_go (k := 2) (ls := [some (.inr (some 81)), some (.inl f), some (.inl j), none, none]) (by decide) rfl (Nat.le_of_ble_eq_true rfl) rfl ?_
  refine G_aload_n (i := 0) dX12_slips_0 rfl rfl ?_
  refine G_iload_n (i := 1) dX12_slips_1 rfl rfl ?_
  refine G_cVq (as := [.inl f]) qX12_244 (m_isFigure (d + 2) τ h hT f (by omega) x.f_) rfl rfl (Nat.le_of_ble_eq_true rfl) (o81 hT) dX12_slips_2 ?_
  refine G_ifb_eq (tgt := 13) dX12_slips_5 (by decide) (fun c_1 => ?_) (fun c_1 => ?_)
  · refine G_iconst dX12_slips_13 ?_
    refine G_iretZ rfl dX12_slips_14 ?_
    exact ⟨by unfold f_slips; (repeat (first | rw [if_pos (by omega)] | rw [if_neg (by omega)])), FRt.rf⟩
  · refine G_iload_n (i := 2) dX12_slips_8 rfl rfl ?_
    refine G_iconst dX12_slips_9 ?_
    refine G_icmp_ge (tgt := 15) dX12_slips_10 (by decide) (by omega) (by decide) (fun c_2 => ?_) (fun c_2 => ?_)
    · refine G_aload_n (i := 0) dX12_slips_15 rfl rfl ?_
      refine G_getI (v := h 81 11) fX12_44 rfl dX12_slips_16 (o81 hT) rfl ?_
      refine G_if_ne (tgt := 25) dX12_slips_19 (by decide) (by omega) (fun c_3 => ?_) (fun c_3 => ?_)
      · refine G_iconst dX12_slips_25 ?_
        refine G_istore_n (i := 3) (ls' := [some (.inr (some 81)), some (.inl f), some (.inl j), some (.inl 0), none]) dX12_slips_26 rfl (by decide) rfl ?_
        refine G_iconst dX12_slips_27 ?_
        refine G_istore (ls' := [some (.inr (some 81)), some (.inl f), some (.inl j), some (.inl 0), some (.inl 0)]) dX12_slips_28 (by decide) rfl ?_
        obtain ⟨F, rfl⟩ : ∃ F : Nat, f = (F : Int) := ⟨f.toNat, by omega⟩
        refine G_mono ?_ (m_slips_L d τ h hT F j (by omega) (by omega) x (by omega) _ h 0 0 (Nat.lt_succ_self _) FRt.rf (by have := x.ma_ F (by omega); omega) (Nat.le_refl _))
        rintro r τ' h' ⟨q1, v, q2, q3, q4⟩
        refine ⟨q1, v, q2, ?_, q4⟩
        unfold f_slips; rw [if_neg (by omega), if_neg (by omega)]; exact q3
      · refine G_bipush dX12_slips_22 (by decide) ?_
        refine G_iretZ rfl dX12_slips_24 ?_
        exact ⟨by unfold f_slips; (repeat (first | rw [if_pos (by omega)] | rw [if_neg (by omega)])), FRt.rf⟩
    · refine G_iconst dX12_slips_13 ?_
      refine G_iretZ rfl dX12_slips_14 ?_
      exact ⟨by unfold f_slips; (repeat (first | rw [if_pos (by omega)] | rw [if_neg (by omega)])), FRt.rf⟩

