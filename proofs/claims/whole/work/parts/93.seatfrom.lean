/-! set: the class seats -/
theorem x_apart2 (d : Nat) (τ : TT) (h : HT) (hT : TK τ) (a b : Int) (ha : 0 ≤ a ∧ a < 7) (hb : 0 ≤ b ∧ b < 7) (ra : 0 ≤ h 62 a.toNat ∧ h 62 a.toNat ≤ 20) (rb : 0 ≤ h 62 b.toNat ∧ h 62 b.toNat ≤ 20) : S_ mX8_apart (d + 1) 0 0 [.inr (some 60), .inl a, .inl b] τ h (Zi τ fun v h' => v = f_ab (h 62 a.toNat - h 62 b.toNat) ∧ h' = h) := by
  refine S_go (k := 0) (ls := [some (.inr (some 60)), some (.inl a), some (.inl b)]) (by decide) rfl (Nat.le_of_ble_eq_true rfl) rfl ?_
  refine G_aload_n (i := 0) dX8_apart_0 rfl rfl ?_
  refine G_getR fX8_19 rfl dX8_apart_1 (o60 hT) (r60_2 hT) ?_
  refine G_iload_n (i := 1) dX8_apart_4 rfl rfl ?_
  refine G_iald (v := h 62 ((a).toNat)) dX8_apart_5 (o62 hT) (by omega) rfl ?_
  refine G_aload_n (i := 0) dX8_apart_6 rfl rfl ?_
  refine G_getR fX8_19 rfl dX8_apart_7 (o60 hT) (r60_2 hT) ?_
  refine G_iload_n (i := 2) dX8_apart_10 rfl rfl ?_
  refine G_iald (v := h 62 ((b).toNat)) dX8_apart_11 (o62 hT) (by omega) rfl ?_
  refine G_isub dX8_apart_12 ?_
  refine G_cSq (as := [.inl ((h 62 ((a).toNat)) - (h 62 ((b).toNat)))]) qX8_63 (j_abs d τ h ((h 62 ((a).toNat)) - (h 62 ((b).toNat))) (by omega)) rfl rfl (Nat.le_of_ble_eq_true rfl) dX8_apart_13 ?_
  refine G_iretZ rfl dX8_apart_16 ?_
  exact ⟨rfl, rfl⟩

def ZS (τ : TT) (n : Nat) (R : Nat → Int) (p : Nat) (h : HT) : ZT := Zv τ fun h' => FD (fun o => f_sm n R o n) n (EX n (h 65) p) (h 60 7) (h' 60 7) (h 66) (h' 66) ∧ (0 ≤ h' 60 7 ∧ h' 60 7 ≤ 1000000) ∧ (∀ q : Nat, q < p → h' 65 q = h 65 q) ∧ (∀ c j : Nat, c ≠ 64 → c ≠ 65 → c ≠ 66 → (c = 60 → j ≠ 7) → h' c j = h c j)
theorem x_seatFrom_L (d : Nat) (τ : TT) (h : HT) (hT : TK τ) (n : Nat) (hn7 : 3 ≤ n ∧ n ≤ 7) (R : Nat → Int) (hR : ∀ k : Nat, k < n → 0 ≤ R k ∧ R k ≤ 20) (p : Nat) (hp : 1 ≤ p ∧ p ≤ n) (sm W : Int) (q : SQ h n R p sm W) (hsm : 0 ≤ sm ∧ sm ≤ 200) (rec : p < n → ∀ (g : HT) (P s2 W2 : Int), P = ((p + 1 : Nat) : Int) → SQ g n R (p + 1) s2 W2 → S_ mX8_seatFrom (d + 1) 0 0 [.inr (some 60), .inl P, .inl s2, .inl W2] τ g (ZS τ n R (p + 1) g)) (hpn : p < n) : ∀ (n_ : Nat) (g : HT) (i : Nat), n - i < n_ → (1 ≤ i ∧ i ≤ n) → (∀ c j : Nat, c ≠ 64 → c ≠ 65 → c ≠ 66 → (c = 60 → j ≠ 7) → g c j = h c j) → (∀ q : Nat, q < p → g 65 q = h 65 q) → (0 ≤ g 60 7 ∧ g 60 7 ≤ 1000000) → FD (fun o => f_sm n R o n) n (fun o => EX n (h 65) p o ∧ o p < (i : Int)) (h 60 7) (g 60 7) (h 66) (g 66) → G_ mX8_seatFrom (d + 2) 0 0 53 [some (.inr (some 60)), some (.inl (p : Int)), some (.inl sm), some (.inl W), some (.inl (i : Int)), none] [] τ g (ZS τ n R p h) := by
  intro n_
  induction n_ with
  | zero => intro g i hm_; exact absurd hm_ (Nat.not_lt_zero _)
  | succ n_ ih =>
    intro g i hm_ hi fr r5 lr fd
    have g0 : g 60 0 = (n : Int) := (fr 60 0 (by decide) (by decide) (by decide) (by decide)).trans q.1
    have g2 : ∀ k : Nat, k < n → g 62 k = R k := fun k hk => (fr 62 k (by decide) (by decide) (by decide) (by omega)).trans (q.2.1 k hk)
    have e5 : g 65 ((p : Int) - 1).toNat = h 65 (p - 1) := by rw [show ((p : Int) - 1).toNat = p - 1 by omega]; exact r5 _ (by omega)
    have l5 := q.2.2.1.2.1 (p - 1) (by omega)
    have e50 : g 65 0 = 0 := (r5 0 (by omega)).trans q.2.2.1.1
    have tbi : tb_ W i = b_and (b_ushr W (i : Int)) 1 := rfl
    refine G_iload dX8_seatFrom_53 rfl ?_
    refine G_aload_n (i := 0) dX8_seatFrom_55 rfl rfl ?_
    refine G_getI (v := (n : Int)) fX8_9 rfl dX8_seatFrom_56 (o60 hT) (g0) ?_
    refine G_icmp_ge (tgt := 140) dX8_seatFrom_59 (by decide) (by omega) (by omega) (fun c_1 => ?_) (fun c_1 => ?_)
    · refine G_vretZ rfl dX8_seatFrom_140 ?_
      obtain rfl : i = n := by omega
      refine ⟨FD_c (fun o => ⟨fun k => k.1, fun k => ⟨k, (k.1.1 p (by omega)).2⟩⟩) fd, lr, r5, fr⟩
    · refine G_iload_n (i := 2) dX8_seatFrom_62 rfl rfl ?_
      refine G_aload_n (i := 0) dX8_seatFrom_63 rfl rfl ?_
      refine G_aload_n (i := 0) dX8_seatFrom_64 rfl rfl ?_
      refine G_getR fX8_25 rfl dX8_seatFrom_65 (o60 hT) (r60_4 hT) ?_
      refine G_iload_n (i := 1) dX8_seatFrom_68 rfl rfl ?_
      refine G_iconst dX8_seatFrom_69 ?_
      refine G_isub dX8_seatFrom_70 ?_
      refine G_iald (v := h 65 (p - 1)) dX8_seatFrom_71 (o65 hT) (by omega) (e5) ?_
      refine G_iload dX8_seatFrom_72 rfl ?_
      refine G_cVi (as := [.inl (h 65 (p - 1)), .inl (i : Int)]) qX8_53 (x_apart2 d τ g hT (h 65 (p - 1)) ((i : Int)) (by omega) (by omega) (by rw [g2 _ (by omega)]; exact hR _ (by omega)) (by rw [g2 _ (by omega)]; exact hR _ (by omega))) rfl rfl (Nat.le_of_ble_eq_true rfl) (o60 hT) dX8_seatFrom_74 (fun v74 h1 e1 => ?_)
      obtain ⟨ev74, eh⟩ := e1
      rw [eh]
      clear eh
      rw [g2 _ (by omega), g2 _ (by omega)] at ev74
      have bv74 : 0 ≤ v74 ∧ v74 ≤ 20 := by rw [ev74]; exact ab_r (hR _ (by omega)) (hR _ (by omega))
      refine G_iadd dX8_seatFrom_77 ?_
      refine G_istore (ls' := [some (.inr (some 60)), some (.inl (p : Int)), some (.inl sm), some (.inl W), some (.inl (i : Int)), some (.inl (sm + v74))]) dX8_seatFrom_78 (by decide) rfl ?_
      refine G_iload_n (i := 3) dX8_seatFrom_80 rfl rfl ?_
      refine G_iload dX8_seatFrom_81 rfl ?_
      refine G_iushr dX8_seatFrom_83 ?_
      have ru := b_ushr_r W (i : Int)
      refine G_iconst dX8_seatFrom_84 ?_
      refine G_iand dX8_seatFrom_85 ?_
      have rc := b_and_r (b_ushr W (i : Int)) 1
      refine G_if_ne (tgt := 134) dX8_seatFrom_86 (by decide) (by omega) (fun c_2 => ?_) (fun c_2 => ?_)
      · refine G_iinc (ls' := [some (.inr (some 60)), some (.inl (p : Int)), some (.inl sm), some (.inl W), some (.inl ((i : Int) + 1)), some (.inl (sm + v74))]) dX8_seatFrom_134 (by decide) rfl rfl ?_
        refine G_goto (tgt := 53) dX8_seatFrom_137 (by decide) ?_
        refine G_lsub (ls' := [some (.inr (some 60)), some (.inl (p : Int)), some (.inl sm), some (.inl W), some (.inl ((i : Int) + 1)), none]) (LS_same (LS_same (LS_same (LS_same (LS_same (LS_none LS_nil)))))) ?_
        exact ih g (i + 1) (by omega) (by omega) fr r5 lr (EX_step (by omega) fd (FD_cut fun o k => (SQ_no q (by omega) (by omega) (by omega) (by omega) k).elim))
      · refine G_iload dX8_seatFrom_89 rfl ?_
        refine G_aload_n (i := 0) dX8_seatFrom_91 rfl rfl ?_
        refine G_iload dX8_seatFrom_92 rfl ?_
        refine G_aload_n (i := 0) dX8_seatFrom_94 rfl rfl ?_
        refine G_getR fX8_25 rfl dX8_seatFrom_95 (o60 hT) (r60_4 hT) ?_
        refine G_iconst dX8_seatFrom_98 ?_
        refine G_iald (v := 0) dX8_seatFrom_99 (o65 hT) (by decide) (e50) ?_
        refine G_cVi (as := [.inl (i : Int), .inl 0]) qX8_53 (x_apart2 d τ g hT ((i : Int)) (0) (by omega) (by omega) (by rw [g2 _ (by omega)]; exact hR _ (by omega)) (by rw [g2 _ (by omega)]; exact hR _ (by omega))) rfl rfl (Nat.le_of_ble_eq_true rfl) (o60 hT) dX8_seatFrom_100 (fun v100 h1 e1 => ?_)
        obtain ⟨ev100, eh⟩ := e1
        rw [eh]
        clear eh
        rw [g2 _ (by omega), g2 _ (by omega)] at ev100
        have bv100 : 0 ≤ v100 ∧ v100 ≤ 20 := by rw [ev100]; exact ab_r (hR _ (by omega)) (hR _ (by omega))
        refine G_iadd dX8_seatFrom_103 ?_
        refine G_aload_n (i := 0) dX8_seatFrom_104 rfl rfl ?_
        refine G_getI (v := g 60 7) fX8_34 rfl dX8_seatFrom_105 (o60 hT) rfl ?_
        refine G_icmp_ge (tgt := 134) dX8_seatFrom_108 (by decide) (by omega) (by omega) (fun c_3 => ?_) (fun c_3 => ?_)
        · refine G_iinc (ls' := [some (.inr (some 60)), some (.inl (p : Int)), some (.inl sm), some (.inl W), some (.inl ((i : Int) + 1)), some (.inl (sm + v74))]) dX8_seatFrom_134 (by decide) rfl rfl ?_
          refine G_goto (tgt := 53) dX8_seatFrom_137 (by decide) ?_
          refine G_lsub (ls' := [some (.inr (some 60)), some (.inl (p : Int)), some (.inl sm), some (.inl W), some (.inl ((i : Int) + 1)), none]) (LS_same (LS_same (LS_same (LS_same (LS_same (LS_none LS_nil)))))) ?_
          exact ih g (i + 1) (by omega) (by omega) fr r5 lr (EX_step (by omega) fd (FD_cut fun o k => by have := SQ_cut q (by omega) ev74 ev100 k; show g 60 7 ≤ f_sm n R o n; omega))
        · refine G_aload_n (i := 0) dX8_seatFrom_111 rfl rfl ?_
          refine G_getR fX8_25 rfl dX8_seatFrom_112 (o60 hT) (r60_4 hT) ?_
          refine G_iload_n (i := 1) dX8_seatFrom_115 rfl rfl ?_
          refine G_iload dX8_seatFrom_116 rfl ?_
          refine G_iastk p dX8_seatFrom_118 (o65 hT) (by omega) rfl ?_
          refine G_aload_n (i := 0) dX8_seatFrom_119 rfl rfl ?_
          refine G_iload_n (i := 1) dX8_seatFrom_120 rfl rfl ?_
          refine G_iconst dX8_seatFrom_121 ?_
          refine G_iadd dX8_seatFrom_122 ?_
          refine G_iload dX8_seatFrom_123 rfl ?_
          refine G_iload_n (i := 3) dX8_seatFrom_125 rfl rfl ?_
          refine G_iconst dX8_seatFrom_126 ?_
          refine G_iload dX8_seatFrom_127 rfl ?_
          refine G_ishl dX8_seatFrom_129 ?_
          refine G_ior dX8_seatFrom_130 ?_
          refine G_cVv (as := [.inl ((p : Int) + 1), .inl (sm + v74), .inl (b_or W (b_shl 1 (i : Int)))]) qX8_49 (rec (by omega) (hs_ g 65 p (i : Int)) ((p : Int) + 1) (sm + v74) (b_or W (b_shl 1 (i : Int))) (by omega) (SQ_s q (by omega) (by omega) (by omega) fr r5 lr (by omega) ev74 ev100 (by omega))) rfl rfl (Nat.le_of_ble_eq_true rfl) (o60 hT) dX8_seatFrom_131 (fun g3 z3 => ?_)
          obtain ⟨z1, z2, z3, z5⟩ := z3
          have z1x : FD (fun o => f_sm n R o n) n (EX n (hs_ g 65 p (i : Int) 65) (p + 1)) (g 60 7) (g3 60 7) (g 66) (g3 66) := z1
          refine G_iinc (ls' := [some (.inr (some 60)), some (.inl (p : Int)), some (.inl sm), some (.inl W), some (.inl ((i : Int) + 1)), some (.inl (sm + v74))]) dX8_seatFrom_134 (by decide) rfl rfl ?_
          refine G_goto (tgt := 53) dX8_seatFrom_137 (by decide) ?_
          refine G_lsub (ls' := [some (.inr (some 60)), some (.inl (p : Int)), some (.inl sm), some (.inl W), some (.inl ((i : Int) + 1)), none]) (LS_same (LS_same (LS_same (LS_same (LS_same (LS_none LS_nil)))))) ?_
          refine ih _ (i + 1) (by omega) (by omega) (fun c j a1 a2 a3 a4 => ?_) (fun k hk => ?_) z2 ?_
          · rw [z5 c j a1 a2 a3 a4, hs_na a2]; exact fr c j a1 a2 a3 a4
          · rw [z3 k (by omega), hs_ni (by omega)]; exact r5 k hk
          · refine EX_step (by omega) fd (FD_c (fun o => ?_) z1x)
            refine ⟨fun k => ⟨⟨k.1, fun q hq => ?_⟩, ?_⟩, fun k => ⟨k.1.1, fun q hq => ?_⟩⟩
            · rw [k.2 q (by omega), hs_ni (by omega)]; exact r5 q hq
            · rw [k.2 p (by omega), hs_eq]
            · by_cases z : q = p
              · rw [z, hs_eq]; exact k.2
              · rw [k.1.2 q (by omega), hs_ni z]; exact (r5 q (by omega)).symm

theorem x_seatFrom_1 (d : Nat) (τ : TT) (h : HT) (hT : TK τ) (n : Nat) (hn7 : 3 ≤ n ∧ n ≤ 7) (R : Nat → Int) (hR : ∀ k : Nat, k < n → 0 ≤ R k ∧ R k ≤ 20) (p : Nat) (hp : 1 ≤ p ∧ p ≤ n) (sm W : Int) (q : SQ h n R p sm W) (hsm : 0 ≤ sm ∧ sm ≤ 200) (rec : p < n → ∀ (g : HT) (P s2 W2 : Int), P = ((p + 1 : Nat) : Int) → SQ g n R (p + 1) s2 W2 → S_ mX8_seatFrom (d + 1) 0 0 [.inr (some 60), .inl P, .inl s2, .inl W2] τ g (ZS τ n R (p + 1) g)) : S_ mX8_seatFrom (d + 2) 0 0 [.inr (some 60), .inl (p : Int), .inl sm, .inl W] τ h (ZS τ n R p h) := by
  have g0 : h 60 0 = (n : Int) := q.1
  have g2 : ∀ k : Nat, k < n → h 62 k = R k := q.2.1
  have e5 : h 65 ((p : Int) - 1).toNat = h 65 (p - 1) := by rw [show ((p : Int) - 1).toNat = p - 1 by omega]
  have l5 := q.2.2.1.2.1 (p - 1) (by omega)
  have e50 : h 65 0 = 0 := q.2.2.1.1
  refine S_go (k := 2) (ls := [some (.inr (some 60)), some (.inl (p : Int)), some (.inl sm), some (.inl W), none, none]) (by decide) rfl (Nat.le_of_ble_eq_true rfl) rfl ?_
  refine G_iload_n (i := 1) dX8_seatFrom_0 rfl rfl ?_
  refine G_aload_n (i := 0) dX8_seatFrom_1 rfl rfl ?_
  refine G_getI (v := (n : Int)) fX8_9 rfl dX8_seatFrom_2 (o60 hT) (g0) ?_
  refine G_icmp_lt (tgt := 50) dX8_seatFrom_5 (by decide) (by omega) (by omega) (fun c_1 => ?_) (fun c_1 => ?_)
  · refine G_iconst dX8_seatFrom_50 ?_
    refine G_istore (ls' := [some (.inr (some 60)), some (.inl (p : Int)), some (.inl sm), some (.inl W), some (.inl 1), none]) dX8_seatFrom_51 (by decide) rfl ?_
    refine G_lsub (ls' := [some (.inr (some 60)), some (.inl (p : Int)), some (.inl sm), some (.inl W), some (.inl 1), none]) (LS_same (LS_same (LS_same (LS_same (LS_same (LS_none LS_nil)))))) ?_
    exact x_seatFrom_L d τ h hT n hn7 R hR p hp sm W q hsm rec (by omega) _ h 1 (Nat.lt_succ_self _) (by omega) (fun _ _ _ _ _ _ => rfl) (fun _ _ => rfl) q.2.2.2.2.1 (FD_cut fun o k => (by have a1 := (k.1.1.1 p (by omega)).1; have a2 := k.1.1.2 p 0 (by omega) (by omega); have a3 := k.1.2 0 (by omega); rw [e50] at a3; rw [a3] at a2; have a4 := k.2; omega))
  · refine G_aload_n (i := 0) dX8_seatFrom_8 rfl rfl ?_
    refine G_iload_n (i := 2) dX8_seatFrom_9 rfl rfl ?_
    refine G_aload_n (i := 0) dX8_seatFrom_10 rfl rfl ?_
    refine G_aload_n (i := 0) dX8_seatFrom_11 rfl rfl ?_
    refine G_getR fX8_25 rfl dX8_seatFrom_12 (o60 hT) (r60_4 hT) ?_
    refine G_iload_n (i := 1) dX8_seatFrom_15 rfl rfl ?_
    refine G_iconst dX8_seatFrom_16 ?_
    refine G_isub dX8_seatFrom_17 ?_
    refine G_iald (v := h 65 (p - 1)) dX8_seatFrom_18 (o65 hT) (by omega) (e5) ?_
    refine G_aload_n (i := 0) dX8_seatFrom_19 rfl rfl ?_
    refine G_getR fX8_25 rfl dX8_seatFrom_20 (o60 hT) (r60_4 hT) ?_
    refine G_iconst dX8_seatFrom_23 ?_
    refine G_iald (v := 0) dX8_seatFrom_24 (o65 hT) (by decide) (e50) ?_
    refine G_cVi (as := [.inl (h 65 (p - 1)), .inl 0]) qX8_53 (x_apart2 d τ h hT (h 65 (p - 1)) (0) (by omega) (by omega) (by rw [g2 _ (by omega)]; exact hR _ (by omega)) (by rw [g2 _ (by omega)]; exact hR _ (by omega))) rfl rfl (Nat.le_of_ble_eq_true rfl) (o60 hT) dX8_seatFrom_25 (fun v25 h1 e1 => ?_)
    obtain ⟨ev25, eh⟩ := e1
    rw [eh]
    clear eh
    rw [g2 _ (by omega), g2 _ (by omega)] at ev25
    have bv25 : 0 ≤ v25 ∧ v25 ≤ 20 := by rw [ev25]; exact ab_r (hR _ (by omega)) (hR _ (by omega))
    refine G_iadd dX8_seatFrom_28 ?_
    refine G_putI fX8_34 dX8_seatFrom_29 (o60 hT) ?_
    refine G_aload_n (i := 0) dX8_seatFrom_32 rfl rfl ?_
    refine G_getR fX8_25 rfl dX8_seatFrom_33 (o60 hT) (r60_4 hT) ?_
    refine G_iconst dX8_seatFrom_36 ?_
    refine G_aload_n (i := 0) dX8_seatFrom_37 rfl rfl ?_
    refine G_getR fX8_28 rfl dX8_seatFrom_38 (o60 hT) (r60_5 hT) ?_
    refine G_iconst dX8_seatFrom_41 ?_
    refine G_aload_n (i := 0) dX8_seatFrom_42 rfl rfl ?_
    refine G_getI (v := (n : Int)) fX8_9 rfl dX8_seatFrom_43 (o60 hT) ((hs_ni (by decide)).trans (g0)) ?_
    refine G_copyk 0 0 (((n : Int)).toNat) qX8_57 (Nat.le_of_ble_eq_true rfl) dX8_seatFrom_46 (o65 hT) (o66 hT) (by omega) (by omega) (by omega) (by omega) (by omega) rfl rfl rfl ?_
    rw [hc00k (f := h 65) (fun j_ => (hs_na (by decide)))]
    refine G_vretZ rfl dX8_seatFrom_49 ?_
    obtain rfl : p = n := by omega
    have eL : sm + v25 = f_sm p R (h 65) p := by
      have e6 := sm_e (R := R) (o := h 65) (show p - 1 + 1 = p by omega)
      rw [show p - 1 + 1 = p by omega, ← q.2.2.2.1, e50] at e6
      rw [e6, ev25]
    have P65 : isP p (h 65) := ⟨q.2.2.1.2.1, q.2.2.1.2.2.1⟩
    refine ⟨?_, ?_, fun k hk => ?_, fun c j a1 a2 a3 a4 => ?_⟩
    · refine SQ_end q ?_ (fun k hk => hf_in ⟨Nat.zero_le _, hk⟩)
      rw [hf_na (by decide), hs_eq]; exact eL
    · have r7 := f_sm_r hR P65 p (Nat.le_refl _)
      rw [hf_na (by decide), hs_eq]; omega
    · rw [hf_na (by decide), hs_na (by decide)]
    · rw [hf_na a3]; unfold hs_; rw [if_neg (by omega)]

theorem sm_b {n : Nat} {R o : Nat → Int} (hR : ∀ i : Nat, i < n → 0 ≤ R i ∧ R i ≤ 20) : ∀ p : Nat, p < n → (∀ q : Nat, q ≤ p → 0 ≤ o q ∧ o q < n) → 0 ≤ f_sm n R o p ∧ f_sm n R o p ≤ 20 * p
  | 0, _, _ => ⟨Int.le_refl 0, Int.le_refl 0⟩
  | p + 1, h, e => by
    have ih := sm_b hR p (by omega) (fun q hq => e q (by omega))
    have a := e p (by omega)
    have b := e (p + 1) (by omega)
    have r := ab_r (hR (o p).toNat (by omega)) (hR (o (p + 1)).toNat (by omega))
    rw [sm_s h]
    generalize f_ab (R (o p).toNat - R (o (p + 1)).toNat) = A at r ⊢
    omega
theorem x_seatFrom (τ : TT) (hT : TK τ) (n : Nat) (hn7 : 3 ≤ n ∧ n ≤ 7) (R : Nat → Int) (hR : ∀ k : Nat, k < n → 0 ≤ R k ∧ R k ≤ 20) (d : Nat) : ∀ (m p : Nat), p + m = n → 1 ≤ p → ∀ (h : HT) (P sm W : Int), P = (p : Int) → SQ h n R p sm W → S_ mX8_seatFrom (d + m + 2) 0 0 [.inr (some 60), .inl P, .inl sm, .inl W] τ h (ZS τ n R p h) := by
  intro m
  induction m with
  | zero =>
    intro p e hp h P sm W eP q
    obtain rfl := eP
    have bs := sm_b (o := h 65) hR (p - 1) (by omega) (fun k hk => q.2.2.1.2.1 k (by omega))
    rw [← q.2.2.2.1] at bs
    exact x_seatFrom_1 d τ h hT n hn7 R hR p (by omega) sm W q (by omega) (fun z => absurd z (by omega))
  | succ m ih =>
    intro p e hp h P sm W eP q
    obtain rfl := eP
    have bs := sm_b (o := h 65) hR (p - 1) (by omega) (fun k hk => q.2.2.1.2.1 k (by omega))
    rw [← q.2.2.2.1] at bs
    exact x_seatFrom_1 (d + m + 1) τ h hT n hn7 R hR p (by omega) sm W q (by omega) (fun z g P2 s2 W2 e2 q2 => ih (p + 1) (by omega) (by omega) g P2 s2 W2 e2 q2)
theorem x_seatFrom_7 (d : Nat) (τ : TT) (hT : TK τ) (n : Nat) (hn7 : 3 ≤ n ∧ n ≤ 7) (R : Nat → Int) (hR : ∀ k : Nat, k < n → 0 ≤ R k ∧ R k ≤ 20) (h : HT) (P sm W : Int) (e : P = 1) (q : SQ h n R 1 sm W) : S_ mX8_seatFrom (d + 8) 0 0 [.inr (some 60), .inl P, .inl sm, .inl W] τ h (ZS τ n R 1 h) := by
  have := x_seatFrom τ hT n hn7 R hR (d + (7 - n)) (n - 1) 1 (by omega) (by omega) h P sm W e q
  rwa [show d + (7 - n) + (n - 1) + 2 = d + 8 by omega] at this
theorem tb_1 : ∀ k : Nat, k < 7 → tb_ 1 k = if k = 0 then 1 else 0 := by decide +kernel
theorem SQ_1 {h : HT} {n : Nat} {R : Nat → Int} (hn7 : 3 ≤ n ∧ n ≤ 7) (hn : h 60 0 = (n : Int)) (hq : ∀ k : Nat, k < n → h 62 k = R k) : SQ (hs_ (hs_ h 60 7 1000000) 65 0 0) n R 1 0 1 := by
  refine ⟨?_, fun k hk => ?_, ⟨hs_eq, fun q hq => ?_, fun q r a b _ => by omega, by decide, fun k hk => ?_⟩, rfl, ?_, fun e => by omega⟩
  · rw [hs_na (by decide), hs_ni (by decide)]; exact hn
  · rw [hs_na (by decide), hs_na (by decide)]; exact hq k hk
  · obtain rfl : q = 0 := by omega
    rw [hs_eq]; omega
  · rw [tb_1 k (by omega)]
    by_cases z : k = 0
    · rw [if_pos z, z]; exact ⟨fun _ => ⟨0, by decide, hs_eq⟩, fun _ => rfl⟩
    · rw [if_neg z]
      refine ⟨fun e => absurd e (by decide), fun ⟨q, hq, e⟩ => ?_⟩
      obtain rfl : q = 0 := by omega
      rw [hs_eq] at e; omega
  · rw [hs_na (by decide), hs_eq]; decide
theorem x_seatAll (d : Nat) (τ : TT) (h : HT) (hT : TK τ) (n : Nat) (hn7 : 3 ≤ n ∧ n ≤ 7) (R : Nat → Int) (hR : ∀ k : Nat, k < n → 0 ≤ R k ∧ R k ≤ 20) (hn : h 60 0 = (n : Int)) (hq : ∀ k : Nat, k < n → h 62 k = R k) : S_ mX8_seatAll (d + 9) 0 0 [.inr (some 60)] τ h (Zv τ fun h' => MINP n (fun o => f_sm n R o n) (f_P n n) (h' 66) ∧ h' 60 7 = f_sm n R (h' 66) n ∧ (∀ c j : Nat, c ≠ 64 → c ≠ 65 → c ≠ 66 → (c = 60 → j ≠ 7) → h' c j = h c j)) := by
  refine S_go (k := 0) (ls := [some (.inr (some 60))]) (by decide) rfl (Nat.le_of_ble_eq_true rfl) rfl ?_
  refine G_aload_n (i := 0) dX8_seatAll_0 rfl rfl ?_
  refine G_ldc (n := 1000000) nX8_48 dX8_seatAll_1 ?_
  refine G_putI fX8_34 dX8_seatAll_3 (o60 hT) ?_
  refine G_aload_n (i := 0) dX8_seatAll_6 rfl rfl ?_
  refine G_getR fX8_25 rfl dX8_seatAll_7 (o60 hT) (r60_4 hT) ?_
  refine G_iconst dX8_seatAll_10 ?_
  refine G_iconst dX8_seatAll_11 ?_
  refine G_iastk 0 dX8_seatAll_12 (o65 hT) (by decide) rfl ?_
  refine G_aload_n (i := 0) dX8_seatAll_13 rfl rfl ?_
  refine G_iconst dX8_seatAll_14 ?_
  refine G_iconst dX8_seatAll_15 ?_
  refine G_iconst dX8_seatAll_16 ?_
  refine G_cVv (as := [.inl 1, .inl 0, .inl 1]) qX8_49 (x_seatFrom_7 d τ hT n hn7 R hR (hs_ (hs_ h 60 7 1000000) 65 0 0) (1) (0) (1) rfl (SQ_1 hn7 hn hq)) rfl rfl (Nat.le_of_ble_eq_true rfl) (o60 hT) dX8_seatAll_17 (fun g z => ?_)
  obtain ⟨z1, z2, z3, z5⟩ := z
  refine G_vretZ rfl dX8_seatAll_20 ?_
  have i8 : (hs_ (hs_ h 60 7 1000000) 65 0 0) 60 7 = 1000000 := by rw [hs_na (by decide), hs_eq]
  have id0 : isP n (fun p => (p : Int)) := ⟨fun p hp => by show (0 : Int) ≤ (p : Int) ∧ (p : Int) < n; omega, fun p q _ _ e => by have e2 : (p : Int) = (q : Int) := e; omega⟩
  have id1 := f_sm_r hR id0 n (Nat.le_refl _)
  have x65 : ∀ q : Nat, q < 1 → (hs_ (hs_ h 60 7 1000000) 65 0 0) 65 q = 0 := fun q hq => by rw [show q = 0 from by omega, hs_eq]
  have z6 := z1.1 _ ⟨id0, fun q hq => by rw [x65 q hq]; show (q : Int) = 0; omega⟩
  rw [i8] at z1
  have z7 : g 60 7 ≤ f_sm n R (fun p => (p : Int)) n := z6
  rcases z1.2 with ⟨k, _⟩ | ⟨k1, k2, k3, k4⟩
  · omega
  have b0 : g 66 0 = 0 := (k2.2 0 (by decide)).trans hs_eq
  have k5 : f_sm n R (g 66) n = g 60 7 := k3
  refine ⟨MINP_0s hn7 k2.1 b0 (fun o P o0 => ?_), k5.symm, fun c j a1 a2 a3 a4 => ?_⟩
  · have ex : EX n ((hs_ (hs_ h 60 7 1000000) 65 0 0) 65) 1 o := ⟨P, fun q hq => by rw [x65 q hq, show q = 0 from by omega]; exact o0⟩
    rw [k5]; exact ⟨z1.1 o ex, fun k => k4 o ex k⟩
  · rw [z5 c j a1 a2 a3 a4, hs_na a2]; unfold hs_; rw [if_neg (by omega)]

