/-! spent: the class -/
theorem x_change' (d : Nat) (τ : TT) (h : HT) (hT : TK τ) (n : Nat) (p : Int) (hn : h 60 0 = (n : Int)) (hn7 : 3 ≤ n ∧ n ≤ 7) (hp : 0 ≤ p ∧ p < n) : S_ mX8_change (d + 1) 0 0 [.inr (some 60), .inl p] τ h (Zi τ fun v h' => v = h 67 p.toNat + h 67 (f_ny n p.toNat) ∧ (∀ j : Nat, j < n → h' 67 j = f_sw n (h 67) p.toNat j) ∧ ∀ b j : Nat, b ≠ 67 → h' b j = h b j) := by
  obtain ⟨q, rfl⟩ : ∃ q : Nat, p = (q : Int) := ⟨p.toNat, by omega⟩
  rw [Int.toNat_natCast]
  refine S_mono ?_ (x_change d τ h hT n q hn hn7 (by omega))
  rintro r τ2 h2 ⟨rfl, v, rfl, q1, q2, q3⟩
  refine ⟨rfl, v, rfl, ?_, q2, q3⟩
  rw [q1, show (x_bh (n : Int) (q : Int)).toNat = f_ny n q from by unfold x_bh f_ny; split <;> split <;> omega]
theorem x_spentIn_L (d : Nat) (τ : TT) (h : HT) (hT : TK τ) (n : Nat) (hn : h 60 0 = (n : Int)) (hn7 : 3 ≤ n ∧ n ≤ 7) (hp : ∀ k : Nat, k < n → 0 ≤ h 63 k ∧ h 63 k ≤ 9) (b LB : Nat) (hB : ST τ b LB) (hb : b + 1 < 60 ∨ 67 < b) (N : Nat) (S : Nat → Int) (hN : h b 1 = (N : Int)) (hN3 : N ≤ 300 ∧ N ≤ LB) (hS : ∀ k : Nat, k < N → h (b + 1) k = S k ∧ f_okc (S k)) (C : Nat → Int) : ∀ (n_ : Nat) (g : HT) (i : Nat) (X : XT), N - i < n_ → i ≤ N → sp_run n (x_gp (h 63) n) C S i = some X → (∀ j : Nat, j < n → g 67 j = X.2 j) → (∀ c j : Nat, c ≠ 67 → g c j = h c j) → G_ mX8_spentIn (d + 2) 0 0 37 [some (.inr (some 60)), some (.inr (some b)), some (.inl X.1), some (.inl (i : Int)), none] [] τ g (Zi τ fun v h' => v = f_spv (sp_run n (x_gp (h 63) n) C S N) ∧ ∀ c j : Nat, c ≠ 67 → h' c j = h c j) := by
  intro n_
  induction n_ with
  | zero => intro g i X hm_; exact absurd hm_ (Nat.not_lt_zero _)
  | succ n_ ih =>
    intro g i X hm_ hi er mv fr
    refine G_iload_n (i := 3) dX8_spentIn_37 rfl rfl ?_
    refine G_aload_n (i := 1) dX8_spentIn_38 rfl rfl ?_
    refine G_getI (v := (N : Int)) fX8_69 rfl dX8_spentIn_39 hB.1 (((fr b 1 (by omega)).trans hN)) ?_
    refine G_icmp_ge (tgt := 122) dX8_spentIn_42 (by decide) (by omega) (by omega) (fun c_1 => ?_) (fun c_1 => ?_)
    · refine G_iload_n (i := 2) dX8_spentIn_122 rfl rfl ?_
      refine G_iretZ rfl dX8_spentIn_123 ?_
      obtain rfl : i = N := by omega
      rw [er]
      exact ⟨rfl, fr⟩
    · refine G_aload_n (i := 1) dX8_spentIn_45 rfl rfl ?_
      refine G_getR fX8_74 rfl dX8_spentIn_46 hB.1 hB.2.2 ?_
      refine G_iload_n (i := 3) dX8_spentIn_49 rfl rfl ?_
      refine G_iald (v := S i) dX8_spentIn_50 hB.2.1 (by omega) (((fr (b + 1) _ (by omega)).trans (hS i (by omega)).1)) ?_
      have k_ := f_okc_e (hS i (by omega)).2
      refine G_istore (ls' := [some (.inr (some 60)), some (.inr (some b)), some (.inl X.1), some (.inl (i : Int)), some (.inl (S i))]) dX8_spentIn_51 (by decide) rfl ?_
      refine G_iload dX8_spentIn_53 rfl ?_
      refine G_bipush dX8_spentIn_55 (by decide) ?_
      refine G_icmp_lt (tgt := 86) dX8_spentIn_57 (by decide) (by omega) (by decide) (fun c_2 => ?_) (fun c_2 => ?_)
      · refine G_iload dX8_spentIn_86 rfl ?_
        refine G_bipush dX8_spentIn_88 (by decide) ?_
        refine G_idiv dX8_spentIn_90 (by omega) (by decide) ?_
        refine G_aload_n (i := 0) dX8_spentIn_91 rfl rfl ?_
        refine G_getI (v := (n : Int)) fX8_9 rfl dX8_spentIn_92 (o60 hT) (((fr 60 0 (by decide)).trans hn)) ?_
        refine G_icmp_ge (tgt := 113) dX8_spentIn_95 (by decide) (by omega) (by omega) (fun c_3 => ?_) (fun c_3 => ?_)
        · refine G_bipush dX8_spentIn_113 (by decide) ?_
          refine G_iretZ rfl dX8_spentIn_115 ?_
          have e0 : sp_run n (x_gp (h 63) n) C S (i + 1) = none := by rw [sp_s er]; unfold sp_st; rw [if_neg (by omega), if_pos (by omega)]
          rw [sp_none e0 (by omega)]
          exact ⟨rfl, fr⟩
        · refine G_iload_n (i := 2) dX8_spentIn_98 rfl rfl ?_
          refine G_aload_n (i := 0) dX8_spentIn_99 rfl rfl ?_
          refine G_iload dX8_spentIn_100 rfl ?_
          refine G_bipush dX8_spentIn_102 (by decide) ?_
          refine G_idiv dX8_spentIn_104 (by omega) (by decide) ?_
          refine G_cVi (as := [.inl ((S i).tdiv 10)]) qX8_85 (x_change' d τ g hT n ((S i).tdiv 10) ((fr 60 0 (by decide)).trans hn) hn7 (by omega)) rfl rfl (Nat.le_of_ble_eq_true rfl) (o60 hT) dX8_spentIn_105 (fun v1 g1 q1 => ?_)
          obtain ⟨t0, t1, t2⟩ := q1
          refine G_iadd dX8_spentIn_108 ?_
          refine G_istore_n (i := 2) (ls' := [some (.inr (some 60)), some (.inr (some b)), some (.inl (X.1 + v1)), some (.inl (i : Int)), some (.inl (S i))]) dX8_spentIn_109 rfl (by decide) rfl ?_
          refine G_goto (tgt := 116) dX8_spentIn_110 (by decide) ?_
          refine G_iinc (ls' := [some (.inr (some 60)), some (.inr (some b)), some (.inl (X.1 + v1)), some (.inl ((i : Int) + 1)), some (.inl (S i))]) dX8_spentIn_116 (by decide) rfl rfl ?_
          refine G_goto (tgt := 37) dX8_spentIn_119 (by decide) ?_
          refine G_lsub (ls' := [some (.inr (some 60)), some (.inr (some b)), some (.inl (X.1 + v1)), some (.inl ((i : Int) + 1)), none]) (LS_same (LS_same (LS_same (LS_same (LS_none LS_nil))))) ?_
          refine ih g1 (i + 1) (_, f_sw n X.2 ((S i).tdiv 10).toNat) (by omega) (by omega) ?_ (fun j hj => ?_) (fun c j z => (t2 c j z).trans (fr c j z))
          · rw [sp_s er]; unfold sp_st; rw [if_neg (by omega), if_neg (by omega), t0, mv _ (by omega), mv _ (by unfold f_ny; split <;> omega)]
          · rw [t1 j hj]; exact f_sw_cc (by omega) mv j hj
      · refine G_iload_n (i := 2) dX8_spentIn_60 rfl rfl ?_
        refine G_aload_n (i := 0) dX8_spentIn_61 rfl rfl ?_
        refine G_cVi (as := []) qX8_77 (x_greatest d τ g hT n ((fr 60 0 (by decide)).trans hn) (by omega) (fun k hk => by rw [fr 63 k (by decide)]; exact hp k hk)) rfl rfl (Nat.le_of_ble_eq_true rfl) (o60 hT) dX8_spentIn_62 (fun v1 h1 e1 => ?_)
        obtain ⟨rfl, eh⟩ := e1
        rw [eh]
        clear eh
        rw [show g 63 = h 63 from funext fun k => fr 63 k (by decide)]
        refine G_iadd dX8_spentIn_65 ?_
        refine G_istore_n (i := 2) (ls' := [some (.inr (some 60)), some (.inr (some b)), some (.inl (X.1 + (x_gp (h 63) n))), some (.inl (i : Int)), some (.inl (S i))]) dX8_spentIn_66 rfl (by decide) rfl ?_
        refine G_aload_n (i := 0) dX8_spentIn_67 rfl rfl ?_
        refine G_iload dX8_spentIn_68 rfl ?_
        refine G_bipush dX8_spentIn_70 (by decide) ?_
        refine G_icmp_ne (tgt := 79) dX8_spentIn_72 (by decide) (by omega) (by decide) (fun c_4 => ?_) (fun c_4 => ?_)
        · refine G_iconst dX8_spentIn_79 ?_
          refine G_cVv (as := [.inl 0]) qX8_81 (x_turnS d τ g hT n 0 (by decide) ((fr 60 0 (by decide)).trans hn) hn7) rfl rfl (Nat.le_of_ble_eq_true rfl) (o60 hT) dX8_spentIn_80 (fun g1 q1 => ?_)
          obtain ⟨t1, t2⟩ := q1
          refine G_goto (tgt := 116) dX8_spentIn_83 (by decide) ?_
          refine G_iinc (ls' := [some (.inr (some 60)), some (.inr (some b)), some (.inl (X.1 + (x_gp (h 63) n))), some (.inl ((i : Int) + 1)), some (.inl (S i))]) dX8_spentIn_116 (by decide) rfl rfl ?_
          refine G_goto (tgt := 37) dX8_spentIn_119 (by decide) ?_
          refine G_lsub (ls' := [some (.inr (some 60)), some (.inr (some b)), some (.inl (X.1 + (x_gp (h 63) n))), some (.inl ((i : Int) + 1)), none]) (LS_same (LS_same (LS_same (LS_same (LS_none LS_nil))))) ?_
          refine ih g1 (i + 1) (_, fun j => X.2 (f_rot n (S i - 100) j)) (by omega) (by omega) ?_ (fun j hj => ?_) (fun c j z => (t2 c j z).trans (fr c j z))
          · rw [sp_s er]; unfold sp_st; rw [if_pos (by omega)]
          · rw [t1 j hj, mv _ (f_rot_r (by omega) hj)]; show X.2 _ = X.2 _; rw [show S i - 100 = 1 by omega]; rfl
        · refine G_iconst dX8_spentIn_75 ?_
          refine G_goto (tgt := 80) dX8_spentIn_76 (by decide) ?_
          refine G_cVv (as := [.inl 1]) qX8_81 (x_turnS d τ g hT n 1 (by decide) ((fr 60 0 (by decide)).trans hn) hn7) rfl rfl (Nat.le_of_ble_eq_true rfl) (o60 hT) dX8_spentIn_80 (fun g1 q1 => ?_)
          obtain ⟨t1, t2⟩ := q1
          refine G_goto (tgt := 116) dX8_spentIn_83 (by decide) ?_
          refine G_iinc (ls' := [some (.inr (some 60)), some (.inr (some b)), some (.inl (X.1 + (x_gp (h 63) n))), some (.inl ((i : Int) + 1)), some (.inl (S i))]) dX8_spentIn_116 (by decide) rfl rfl ?_
          refine G_goto (tgt := 37) dX8_spentIn_119 (by decide) ?_
          refine G_lsub (ls' := [some (.inr (some 60)), some (.inr (some b)), some (.inl (X.1 + (x_gp (h 63) n))), some (.inl ((i : Int) + 1)), none]) (LS_same (LS_same (LS_same (LS_same (LS_none LS_nil))))) ?_
          refine ih g1 (i + 1) (_, fun j => X.2 (f_rot n (S i - 100) j)) (by omega) (by omega) ?_ (fun j hj => ?_) (fun c j z => (t2 c j z).trans (fr c j z))
          · rw [sp_s er]; unfold sp_st; rw [if_pos (by omega)]
          · rw [t1 j hj, mv _ (f_rot_r (by omega) hj)]; show X.2 _ = X.2 _; rw [show S i - 100 = 0 by omega]; rfl

theorem x_spentIn_0 (d : Nat) (τ : TT) (h : HT) (hT : TK τ) (n : Nat) (hn : h 60 0 = (n : Int)) (hn7 : 3 ≤ n ∧ n ≤ 7) (hp : ∀ k : Nat, k < n → 0 ≤ h 63 k ∧ h 63 k ≤ 9) (b LB : Nat) (hB : ST τ b LB) (hb : b + 1 < 60 ∨ 67 < b) (N : Nat) (S : Nat → Int) (hN : h b 1 = (N : Int)) (hN3 : N ≤ 300 ∧ N ≤ LB) (hS : ∀ k : Nat, k < N → h (b + 1) k = S k ∧ f_okc (S k)) (C : Nat → Int) (hb6 : ∀ k : Nat, k < n → 0 ≤ h 66 k ∧ h 66 k < n) (hC : ∀ k : Nat, k < n → h 63 (h 66 k).toNat = C k) : ∀ (n_ : Nat) (i : Nat), n - i < n_ → i ≤ n → G_ mX8_spentIn (d + 2) 0 0 2 [some (.inr (some 60)), some (.inr (some b)), some (.inl (i : Int)), none, none] [] τ (hf_ h 67 0 i (fun p => h 63 (h 66 p).toNat)) (Zi τ fun v h' => v = f_spv (sp_run n (x_gp (h 63) n) C S N) ∧ ∀ c j : Nat, c ≠ 67 → h' c j = h c j) := by
  intro n_
  induction n_ with
  | zero => intro i hm_; exact absurd hm_ (Nat.not_lt_zero _)
  | succ n_ ih =>
    intro i hm_ hi
    refine G_iload_n (i := 2) dX8_spentIn_2 rfl rfl ?_
    refine G_aload_n (i := 0) dX8_spentIn_3 rfl rfl ?_
    refine G_getI (v := (n : Int)) fX8_9 rfl dX8_spentIn_4 (o60 hT) (((hf_na (by decide)).trans hn)) ?_
    refine G_icmp_ge (tgt := 33) dX8_spentIn_7 (by decide) (by omega) (by omega) (fun c_1 => ?_) (fun c_1 => ?_)
    · obtain rfl : n = i := by omega
      refine G_lsub (ls' := [some (.inr (some 60)), some (.inr (some b)), none, none, none]) (LS_same (LS_same (LS_none (LS_none (LS_none LS_nil))))) ?_
      refine G_iconst dX8_spentIn_33 ?_
      refine G_istore_n (i := 2) (ls' := [some (.inr (some 60)), some (.inr (some b)), some (.inl 0), none, none]) dX8_spentIn_34 rfl (by decide) rfl ?_
      refine G_iconst dX8_spentIn_35 ?_
      refine G_istore_n (i := 3) (ls' := [some (.inr (some 60)), some (.inr (some b)), some (.inl 0), some (.inl 0), none]) dX8_spentIn_36 rfl (by decide) rfl ?_
      exact x_spentIn_L d τ h hT n hn hn7 hp b LB hB hb N S hN hN3 hS C _ _ 0 (0, C) (Nat.lt_succ_self _) (Nat.zero_le _) rfl (fun j hj => (hf_in ⟨Nat.zero_le _, hj⟩).trans (hC j hj)) (fun c j z => hf_na z)
    · refine G_aload_n (i := 0) dX8_spentIn_10 rfl rfl ?_
      refine G_getR fX8_31 rfl dX8_spentIn_11 (o60 hT) (r60_6 hT) ?_
      refine G_iload_n (i := 2) dX8_spentIn_14 rfl rfl ?_
      refine G_aload_n (i := 0) dX8_spentIn_15 rfl rfl ?_
      refine G_getR fX8_22 rfl dX8_spentIn_16 (o60 hT) (r60_3 hT) ?_
      refine G_aload_n (i := 0) dX8_spentIn_19 rfl rfl ?_
      refine G_getR fX8_28 rfl dX8_spentIn_20 (o60 hT) (r60_5 hT) ?_
      refine G_iload_n (i := 2) dX8_spentIn_23 rfl rfl ?_
      refine G_iald (v := h 66 i) dX8_spentIn_24 (o66 hT) (by omega) (hf_na (by decide)) ?_
      have e_ := hb6 i (by omega)
      refine G_iald (v := h 63 ((h 66 i).toNat)) dX8_spentIn_25 (o63 hT) (by omega) (hf_na (by decide)) ?_
      refine G_iastk i dX8_spentIn_26 (o67 hT) (by omega) rfl ?_
      refine G_iinc (ls' := [some (.inr (some 60)), some (.inr (some b)), some (.inl ((i : Int) + 1)), none, none]) dX8_spentIn_27 (by decide) rfl rfl ?_
      refine G_goto (tgt := 2) dX8_spentIn_30 (by decide) ?_
      rw [hf_snoc (Nat.zero_le _) rfl]
      exact ih (i + 1) (by omega) (by omega)

theorem x_spentIn (d : Nat) (τ : TT) (h : HT) (hT : TK τ) (n : Nat) (hn : h 60 0 = (n : Int)) (hn7 : 3 ≤ n ∧ n ≤ 7) (hp : ∀ k : Nat, k < n → 0 ≤ h 63 k ∧ h 63 k ≤ 9) (b LB : Nat) (hB : ST τ b LB) (hb : b + 1 < 60 ∨ 67 < b) (N : Nat) (S : Nat → Int) (hN : h b 1 = (N : Int)) (hN3 : N ≤ 300 ∧ N ≤ LB) (hS : ∀ k : Nat, k < N → h (b + 1) k = S k ∧ f_okc (S k)) (C : Nat → Int) (hb6 : ∀ k : Nat, k < n → 0 ≤ h 66 k ∧ h 66 k < n) (hC : ∀ k : Nat, k < n → h 63 (h 66 k).toNat = C k) : S_ mX8_spentIn (d + 2) 0 0 [.inr (some 60), .inr (some b)] τ h (Zi τ fun v h' => v = f_spv (sp_run n (x_gp (h 63) n) C S N) ∧ ∀ c j : Nat, c ≠ 67 → h' c j = h c j) := by
  refine S_go (k := 3) (ls := [some (.inr (some 60)), some (.inr (some b)), none, none, none]) (by decide) rfl (Nat.le_of_ble_eq_true rfl) rfl ?_
  refine G_iconst dX8_spentIn_0 ?_
  refine G_istore_n (i := 2) (ls' := [some (.inr (some 60)), some (.inr (some b)), some (.inl 0), none, none]) dX8_spentIn_1 rfl (by decide) rfl ?_
  have z0 := x_spentIn_0 d τ h hT n hn hn7 hp b LB hB hb N S hN hN3 hS C hb6 hC _ 0 (Nat.lt_succ_self _) (Nat.zero_le _)
  rw [hf_nil] at z0
  exact z0

