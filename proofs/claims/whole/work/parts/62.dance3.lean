/-! operations: dance -/
theorem MIX_r {c g x : HT} : MIX c (MIX g x) = MIX c x := by
  funext a i; unfold MIX; split <;> rfl
theorem T_m_mix {c r : HT} : T_m (MIX c r) = T_m r := by
  unfold T_m
  rw [mx_r (by decide), mx_r (by decide), show MIX c r 86 = r 86 from funext fun i => mx_r (by decide), show MIX c r 88 = r 88 from funext fun i => mx_r (by decide), show MIX c r 94 = r 94 from funext fun i => mx_r (by decide)]
theorem FT_mix {n : Int} {c r : HT} {a : Nat} {T : TR} (ha : a + 3 < 81) (x : FT n (MIX c r) a T) : FT n c a T := x.fr (fun b j b1 b2 => (mx_c (by omega)).symm)
theorem DSP_mix {c c' r : HT} {n : Int} {T : TR} {s v : Int} (D : DSP c c' n T s v) : DSP (MIX c r) c' n T s v := by
  obtain ⟨D1, D2⟩ := D
  refine ⟨fun z => ?_, fun z => ?_⟩
  · obtain ⟨a1, a2, a3⟩ := D1 z
    exact ⟨a1, a2, fun a i q1 q2 => by rw [mx_c q2]; exact a3 a i q1 q2⟩
  · obtain ⟨a1, a2, a3, a4, a5, a6, a7, a8⟩ := D2 z
    refine ⟨a1, a2, a3, fun k => by rw [mx_c (by decide)]; exact a4 k, by rw [mx_c (by decide)]; exact a5, fun w => ?_, fun w => ?_, fun a i q1 q2 => by rw [mx_c q2]; exact a8 a i q1 q2⟩
    · obtain ⟨b1, b2⟩ := a6 w
      exact ⟨by rw [mx_c (by decide)]; exact b1, fun k => by rw [mx_c (by decide), mx_c (by decide), mx_c (by decide)]; exact b2 k⟩
    · obtain ⟨b1, b2⟩ := a7 w
      exact ⟨b1, fun k => by rw [mx_c (by decide), mx_c (by decide), mx_c (by decide)]; exact b2 k⟩
theorem DSP.big {h h' : HT} {n : Int} {T : TR} {s v : Int} (D : DSP h h' n T s v) : ∀ a i : Nat, 126 ≤ a → h' a i = h a i := fun a i ha => by
  by_cases z : (t_tk n T s).1 = 0
  · exact (D.2 z).2.2.2.2.2.2.2 a i (by omega) (by omega)
  · exact (D.1 z).2.2 a i (by omega) (by omega)
theorem x_dance_L (d : Nat) (τ : TT) (h : HT) (hT : TK τ) (x : MI h) (F b L : Nat) (f : Int) (hS : ST τ b L) (hF : (F : Int) < h 81 26) (b2 : 126 ≤ b) (hL : h 102 F ≤ L) (bc : h b 1 = h 102 F) (be : ∀ k : Nat, k < (h 102 F).toNat → h (b + 1) k = h 103 (300 * F + k)) : ∀ (n_ : Nat) (c : HT) (r : HT) (k : Nat), (h 102 F).toNat - k < n_ → SIM τ (MIX c r) → RF h c → (∀ a i : Nat, 126 ≤ a → c a i = h a i) → r 81 11 ≠ 0 → (∀ j : Nat, r 103 j = h 103 j) → f_dn F (h 102 F).toNat h 0 = f_dn F ((h 102 F).toNat - k) r k → k ≤ (h 102 F).toNat → G_ mX11_dance (d + 4) 0 0 27 [some (.inr (some 0)), some (.inl f), some (.inr (some b)), some (.inl (k : Int))] [] τ c (Zi τ fun v h' => v = (f_dn F (h 102 F).toNat h 0).1 ∧ RF h h' ∧ SIM τ (MIX h' (f_dn F (h 102 F).toNat h 0).2)) := by
  intro n_
  induction n_ with
  | zero => intro c r k hm_; exact absurd hm_ (Nat.not_lt_zero _)
  | succ n_ ih =>
    intro c r k hm_ sm rf hb hd h3 edn hk
    have hm := x.ma_ F hF
    have x1 := sm.2.1
    have y1 := sm.2.2
    have xr : MI r := x1.ref (h := MIX c r) (h' := r) (fun a i z1 z2 => (mx_r ⟨z1, z2⟩).symm)
    have n3 := xr.d3 hd
    have okr := T_m_ok xr
    have d1r := xr.d1
    refine G_iload_n (i := 3) dX11_dance_27 rfl rfl ?_
    refine G_aload_n (i := 2) dX11_dance_28 rfl rfl ?_
    refine G_getI (v := h 102 F) fX11_174 rfl dX11_dance_29 hS.1 (((hb b 1 b2).trans bc)) ?_
    refine G_icmp_ge (tgt := 54) dX11_dance_32 (by decide) (by omega) (by omega) (fun c_1 => ?_) (fun c_1 => ?_)
    · refine G_iload_n (i := 3) dX11_dance_54 rfl rfl ?_
      refine G_iretZ rfl dX11_dance_55 ?_
      rw [edn, show (h 102 F).toNat - k = 0 by omega]
      exact ⟨rfl, rf, sm⟩
    · refine G_aload_n (i := 0) dX11_dance_35 rfl rfl ?_
      refine G_aload_n (i := 2) dX11_dance_36 rfl rfl ?_
      refine G_getR fX11_267 rfl dX11_dance_37 hS.1 hS.2.2 ?_
      refine G_iload_n (i := 3) dX11_dance_40 rfl rfl ?_
      refine G_iald (v := h 103 (300 * F + k)) dX11_dance_41 hS.2.1 (by omega) (((hb (b + 1) k (by omega)).trans (be k (by omega)))) ?_
      have hok := x.to_ F k hF (by omega)
      refine G_cVi (as := [.inl (h 103 (300 * F + k))]) qX11_177 (x_doStep d τ c hT (r 81 1) (T_m r) n3 (FT_mix (by decide) (by have := y1.ft; rw [T_m_mix, mx_r (by decide)] at this; exact this)) okr (by have := y1.da_; rw [mx_c (by decide), mx_r (by decide)] at this; omega) (by obtain ⟨ca, cb⟩ := y1.cn_; rw [mx_c (by decide), mx_r (by decide)] at ca cb; exact ⟨ca, cb⟩) (by have := y1.dc_; rw [mx_c (by decide), mx_r (by decide)] at this; exact this) (fun q hq => by have := (y1.cr_ q hq).2; rw [mx_c (by decide)] at this; exact this) (h 103 (300 * F + k)) hok) rfl rfl (Nat.le_of_ble_eq_true rfl) (o0 hT) dX11_dance_42 (fun v1 c' e1 => ?_)
      obtain ⟨D, rf1⟩ := e1
      obtain ⟨q1, q2, q3⟩ := SIM_step (τ := τ) (g := MIX c r) (c := c') (s := (h 103 (300 * F + k))) (v := v1) sm (by rw [mx_r (by decide)]; exact hd) hok (by rw [T_m_mix, mx_r (by decide)]; exact DSP_mix D)
      have em := f_stp_mix (h := r) (h1 := MIX c r) MIX_rf (h 103 (300 * F + k))
      rw [em] at q1 q2
      rw [MIX_mix, MIX_r] at q1
      dsimp only at q1 q2
      have vr : -2147483648 ≤ v1 ∧ v1 ≤ 2147483647 := by have tr := t_tk_r (n := r 81 1) (T := T_m r) (s := (h 103 (300 * F + k))); by_cases z : (t_tk (r 81 1) (T_m r) (h 103 (300 * F + k))).1 = 0; (have := (D.2 z).1; have := okr.1; omega); (have := (D.1 z).1; omega)
      refine G_if_lt (tgt := 54) dX11_dance_45 (by decide) (by omega) (fun c_2 => ?_) (fun c_2 => ?_)
      · refine G_iload_n (i := 3) dX11_dance_54 rfl rfl ?_
        refine G_iretZ rfl dX11_dance_55 ?_
        rw [edn, show (h 102 F).toNat - k = ((h 102 F).toNat - (k + 1)) + 1 by omega, f_dn_0 (by rw [h3]; omega), h3]
        exact ⟨rfl, rf.tr rf1, q1⟩
      · refine G_iinc (ls' := [some (.inr (some 0)), some (.inl f), some (.inr (some b)), some (.inl ((k : Int) + 1))]) dX11_dance_48 (by decide) rfl rfl ?_
        refine G_goto (tgt := 27) dX11_dance_51 (by decide) ?_
        refine ih c' (f_stp r (h 103 (300 * F + k))).2 (k + 1) (by omega) q1 (rf.tr rf1) (fun a i ha => (D.big a i ha).trans (hb a i ha)) (by rw [f_stp_o (by decide)]; exact hd) (fun j => (f_stp_o (kp (by decide))).trans (h3 j)) ?_ (by omega)
        rw [edn, show (h 102 F).toNat - k = ((h 102 F).toNat - (k + 1)) + 1 by omega, f_dn_1 (by rw [h3]; omega), h3]

theorem x_danceM (d : Nat) (τ : TT) (h : HT) (hT : TK τ) (x : MI h) (y : XR τ h) (f : Int) (r_f : -2147483648 ≤ f ∧ f ≤ 2147483647) : S_ mX11_dance (d + 4) 0 0 [.inr (some 0), .inl f] τ h (Zi τ fun v h' => v = (f_dance h f).1 ∧ RF h h' ∧ SIM τ (MIX h' (f_dance h f).2)) := by
  have n9 := x.n9
  have d1 := x.d1
  have n_ := x.n_
  have fn := y.fn_
  have da := y.da_
  have cn := y.cn_
  have r_r_ := x.r_
  have s_s_ := x.s_
  have dc := y.dc_
  have pc := y.pc_
  have pp := x.p_
  have fgc := y.fg_.1
  have f10 := x.f_
  have ra := y.ra_
  have a100 := x.a_
  have pic := y.pi_
  have t40 := x.t_
  have txx := y.tx_
  have e80 := x.e_
  refine S_go (k := 2) (ls := [some (.inr (some 0)), some (.inl f), none, none]) (by decide) rfl (Nat.le_of_ble_eq_true rfl) rfl ?_
  refine G_aload_n (i := 0) dX11_dance_0 rfl rfl ?_
  refine G_getR fX11_79 rfl dX11_dance_1 (o0 hT) (r0_13 hT) ?_
  refine G_iload_n (i := 1) dX11_dance_4 rfl rfl ?_
  refine G_cVr (as := [.inl f]) qX11_264 (x_figureAt (d + 3) τ h hT f (by omega) (by have := y.fg_.1; have := y.fg_.2.1; omega)) rfl rfl (Nat.le_of_ble_eq_true rfl) (o39 hT) dX11_dance_5 (fun x' h' e' => ?_)
  obtain ⟨rfl, eh'⟩ := e'
  rw [eh']
  clear eh'
  by_cases hb : 0 ≤ f ∧ f < h 39 1
  · rw [if_pos hb]
    obtain ⟨b, Lb, b1, b2, b3, b4, b5, b6⟩ := y.fg_.2.2 (f).toNat (by have := y.fg_.1; omega)
    rw [b1]
    have bm := x.ma_ (f).toNat (by have := y.fg_.1; omega)
    obtain ⟨bc, be⟩ := stL_fig b5 b6
    refine G_astore_n (i := 2) (ls' := [some (.inr (some 0)), some (.inl f), some (.inr (some b)), none]) dX11_dance_8 rfl (by decide) rfl ?_
    refine G_aload_n (i := 2) dX11_dance_9 rfl rfl ?_
    refine G_ifnonnullS (tgt := 15) dX11_dance_10 (by decide) ?_
    refine G_aload_n (i := 0) dX11_dance_15 rfl rfl ?_
    refine G_getI (v := h 0 6) fX11_40 rfl dX11_dance_16 (o0 hT) rfl ?_
    refine G_if_ne (tgt := 25) dX11_dance_19 (by decide) (by omega) (fun c_1 => ?_) (fun c_1 => ?_)
    · refine G_iconst dX11_dance_25 ?_
      refine G_istore_n (i := 3) (ls' := [some (.inr (some 0)), some (.inl f), some (.inr (some b)), some (.inl 0)]) dX11_dance_26 rfl (by decide) rfl ?_
      obtain ⟨F, rfl⟩ : ∃ F : Nat, f = (F : Int) := ⟨f.toNat, by omega⟩
      rw [Int.toNat_natCast] at b1 b6 bm bc be
      have ef : f_dance h F = f_dn F (h 102 F).toNat h 0 := by unfold f_dance; rw [if_neg (by omega), if_neg (by omega)]; rfl
      rw [ef]
      exact x_dance_L d τ h hT x F b Lb _ b3 (by omega) b2 (by omega) (by omega) be _ h h 0 (Nat.lt_succ_self _) (by rw [MIX_self]; exact ⟨hT, x, y⟩) RF.rf (fun _ _ _ => rfl) (by omega) (fun _ => rfl) rfl (Nat.zero_le _)
    · refine G_bipush dX11_dance_22 (by decide) ?_
      refine G_iretZ rfl dX11_dance_24 ?_
      have ef : f_dance h f = ((-3), h) := by unfold f_dance; rw [if_neg (by omega), if_pos (by omega)]
      rw [ef]
      exact ⟨rfl, RF.rf, by rw [MIX_self]; exact ⟨hT, x, y⟩⟩
  · rw [if_neg hb]
    refine G_astore_n (i := 2) (ls' := [some (.inr (some 0)), some (.inl f), some (.inr none), none]) dX11_dance_8 rfl (by decide) rfl ?_
    refine G_aload_n (i := 2) dX11_dance_9 rfl rfl ?_
    refine G_ifnonnullN dX11_dance_10 ?_
    refine G_iconst dX11_dance_13 ?_
    refine G_iretZ rfl dX11_dance_14 ?_
    have ef : f_dance h f = ((-1), h) := by unfold f_dance; rw [if_pos (by omega)]
    rw [ef]
    exact ⟨rfl, RF.rf, by rw [MIX_self]; exact ⟨hT, x, y⟩⟩

theorem f_dance_mix {h h1 : HT} (rf : RF h h1) (f : Int) : f_dance h1 f = ((f_dance h f).1, MIX h1 (f_dance h f).2) := by
  have e81 : ∀ k, h1 81 k = h 81 k := fun k => rf 81 k (by decide) (by decide)
  have e2 : ∀ k, h1 102 k = h 102 k := fun k => rf 102 k (by decide) (by decide)
  have em := MIX_rfl rf
  unfold f_dance
  rw [e81, e81, e2]
  by_cases g1 : ¬ (0 ≤ f ∧ f ≤ h 81 26 - 1)
  · rw [if_pos g1, if_pos g1, em]
  rw [if_neg g1, if_neg g1]
  by_cases g2 : h 81 11 = 0
  · rw [if_pos g2, if_pos g2, em]
  rw [if_neg g2, if_neg g2]
  exact f_dn_mix _ _ rf _
theorem op_dance {τ : TT} {h : HT} (s : SIM τ h) (f : Int) (r_f : -2147483648 ≤ f ∧ f ≤ 2147483647) : OPS mX11_dance mX12_dance 20 0 0 [.inl f] τ h := by
  obtain ⟨hT, x, y⟩ := s
  exact OPS_x x (fun g => f_dance g f) (fun h1 rf => f_dance_mix rf f) (fun d => x_danceM (d + 16) τ h hT x y f r_f) (fun d h1 x1 => m_dance (d + 17) τ h1 hT f r_f x1)
