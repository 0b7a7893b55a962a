/-! operations: pass, walk, dance, side by side -/
theorem MIX_rfl {h h1 : HT} (rf : RF h h1) : MIX h1 h = h1 := by
  funext a i; unfold MIX; split
  · rename_i q; exact (rf a i q.1 q.2).symm
  · rfl
theorem MIX_mix {c r x : HT} : MIX (MIX c r) x = MIX c x := by
  funext a i; unfold MIX; split <;> rfl
theorem f_passW_mix {h h1 : HT} (rf : RF h h1) {p q a b w : Int} : f_passW h1 p q a b w = MIX h1 (f_passW h p q a b w) := by
  have e86 : ∀ k, h1 86 k = h 86 k := fun k => rf 86 k (by decide) (by decide)
  have e85 : ∀ k, h1 85 k = h 85 k := fun k => rf 85 k (by decide) (by decide)
  have e88 : ∀ k, h1 88 k = h 88 k := fun k => rf 88 k (by decide) (by decide)
  have e81 : ∀ k, h1 81 k = h 81 k := fun k => rf 81 k (by decide) (by decide)
  funext c i
  by_cases z : 81 ≤ c ∧ c ≤ 125
  · rw [mx_r z]
    have ez := rf c i z.1 z.2
    unfold f_passW
    simp only [hs_, e86, e85, e88, e81, ez]
  · rw [mx_c z, f_passW_o (by omega)]
theorem f_pass_mix {h h1 : HT} (rf : RF h h1) (p w : Int) : f_pass h1 p w = ((f_pass h p w).1, MIX h1 (f_pass h p w).2) := by
  have e86 : ∀ k, h1 86 k = h 86 k := fun k => rf 86 k (by decide) (by decide)
  have e88 : ∀ k, h1 88 k = h 88 k := fun k => rf 88 k (by decide) (by decide)
  have e81 : ∀ k, h1 81 k = h 81 k := fun k => rf 81 k (by decide) (by decide)
  have em := MIX_rfl rf
  unfold f_pass
  rw [e81, e81, e81]
  by_cases g1 : ¬ (0 ≤ p ∧ p ≤ h 81 1 - 1)
  · rw [if_pos g1, if_pos g1, em]
  rw [if_neg g1, if_neg g1]
  by_cases g2 : ¬ (0 ≤ w ∧ w ≤ 1)
  · rw [if_pos g2, if_pos g2, em]
  rw [if_neg g2, if_neg g2]
  by_cases g3 : h 81 11 = 0
  · rw [if_pos g3, if_pos g3, em]
  rw [if_neg g3, if_neg g3, e86, e86]
  generalize (if w = 0 then h 86 p.toNat else h 86 (f_aft (h 81 1) p).toNat) = A
  generalize (if w = 0 then h 86 (f_aft (h 81 1) p).toNat else h 86 p.toNat) = B
  rw [e88, e88]
  by_cases g4 : h 88 A.toNat < 1 ∨ h 88 B.toNat < 2
  · rw [if_pos g4, if_pos g4, em]
  rw [if_neg g4, if_neg g4]
  by_cases g5 : h 81 14 = 300
  · rw [if_pos g5, if_pos g5, em]
  rw [if_neg g5, if_neg g5, f_passW_mix rf]
theorem f_walkW_mix {h h1 : HT} (rf : RF h h1) {w : Int} : f_walkW h1 w = MIX h1 (f_walkW h w) := by
  have e86 : ∀ k, h1 86 k = h 86 k := fun k => rf 86 k (by decide) (by decide)
  have e85 : ∀ k, h1 85 k = h 85 k := fun k => rf 85 k (by decide) (by decide)
  have e88 : ∀ k, h1 88 k = h 88 k := fun k => rf 88 k (by decide) (by decide)
  have e94 : ∀ k, h1 94 k = h 94 k := fun k => rf 94 k (by decide) (by decide)
  have e93 : ∀ k, h1 93 k = h 93 k := fun k => rf 93 k (by decide) (by decide)
  have e95 : ∀ k, h1 95 k = h 95 k := fun k => rf 95 k (by decide) (by decide)
  have e96 : ∀ k, h1 96 k = h 96 k := fun k => rf 96 k (by decide) (by decide)
  have e81 : ∀ k, h1 81 k = h 81 k := fun k => rf 81 k (by decide) (by decide)
  funext c i
  by_cases z : 81 ≤ c ∧ c ≤ 125
  · rw [mx_r z]
    by_cases k : f_kept c i
    · rw [f_walkW_o k, f_walkW_o k]; exact rf c i z.1 z.2
    · have k2 : c = 85 ∨ c = 86 ∨ c = 88 ∨ c = 93 ∨ c = 94 ∨ c = 95 ∨ c = 96 ∨ (c = 81 ∧ i = 14) ∨ (c = 81 ∧ i = 15) := by
        unfold f_kept at k; omega
      rcases k2 with rfl | rfl | rfl | rfl | rfl | rfl | rfl | ⟨rfl, rfl⟩ | ⟨rfl, rfl⟩
      · rw [f_walkW_85, f_walkW_85, e81, e85, e85]
      · rw [f_walkW_86, f_walkW_86, e81, e86, e86]
      · rw [f_walkW_88, f_walkW_88, e81, e81, e88]
      · rw [f_walkW_93, f_walkW_93, e81, e93]
      · rw [f_walkW_94, f_walkW_94, e81, e94]
      · rw [f_walkW_95, f_walkW_95, e81, e81, e95, f_walkW_86, f_walkW_86, e81, e86, e86]
      · rw [f_walkW_96, f_walkW_96, e81, e81, e96, e94]
      · rw [f_walkW_14, f_walkW_14, e81]
      · rw [f_walkW_15, f_walkW_15, e81]
  · rw [mx_c z, f_walkW_o (by omega)]
theorem f_walk_mix {h h1 : HT} (rf : RF h h1) (w : Int) : f_walk h1 w = ((f_walk h w).1, MIX h1 (f_walk h w).2) := by
  have e88 : ∀ k, h1 88 k = h 88 k := fun k => rf 88 k (by decide) (by decide)
  have e81 : ∀ k, h1 81 k = h 81 k := fun k => rf 81 k (by decide) (by decide)
  have em := MIX_rfl rf
  unfold f_walk
  simp only [e81, e88]
  by_cases g1 : ¬ (0 ≤ w ∧ w ≤ 1)
  · rw [if_pos g1, if_pos g1, em]
  rw [if_neg g1, if_neg g1]
  by_cases g3 : h 81 11 = 0
  · rw [if_pos g3, if_pos g3, em]
  rw [if_neg g3, if_neg g3]
  by_cases g4 : ∃ k, k < (h 81 1).toNat ∧ h 88 k < 10 + (h 81 15).tdiv 3
  · rw [if_pos g4, if_pos g4, em]
  rw [if_neg g4, if_neg g4]
  by_cases g5 : h 81 14 = 300 ∨ h 81 15 = 100
  · rw [if_pos g5, if_pos g5, em]
  rw [if_neg g5, if_neg g5, f_walkW_mix rf]
theorem f_stp_mix {h h1 : HT} (rf : RF h h1) (s : Int) : f_stp h1 s = ((f_stp h s).1, MIX h1 (f_stp h s).2) := by
  unfold f_stp; split
  · exact f_walk_mix rf _
  · exact f_pass_mix rf _ _
theorem f_dn_mix (F : Nat) : ∀ (n : Nat) {h h1 : HT} (rf : RF h h1) (k : Nat), f_dn F n h1 k = ((f_dn F n h k).1, MIX h1 (f_dn F n h k).2)
  | 0, h, h1, rf, k => by show ((k : Int), h1) = ((k : Int), MIX h1 h); rw [MIX_rfl rf]
  | n + 1, h, h1, rf, k => by
    have e3 : h1 103 (300 * F + k) = h 103 (300 * F + k) := rf 103 _ (by decide) (by decide)
    have es := f_stp_mix rf (h 103 (300 * F + k))
    by_cases q : 0 < (f_stp h (h 103 (300 * F + k))).1
    · rw [f_dn_1 q, f_dn_1 (by rw [e3, es]; exact q), e3, es]
      have ih := f_dn_mix F n (h := (f_stp h (h 103 (300 * F + k))).2) (h1 := MIX h1 (f_stp h (h 103 (300 * F + k))).2) MIX_rf (k + 1)
      rw [ih, MIX_mix]
    · rw [f_dn_0 q, f_dn_0 (by rw [e3, es]; exact q), e3, es]
theorem OPS_x {Mc Mr : MT} {K : Nat} {as : List AV} {τ : TT} {h : HT} (x : MI h) (F : HT → Int × HT) (mix : ∀ h1, RF h h1 → F h1 = ((F h).1, MIX h1 (F h).2)) (hc : ∀ d : Nat, S_ Mc (d + K) 0 0 (.inr (some 0) :: as) τ h (Zi τ fun v h1 => v = (F h).1 ∧ RF h h1 ∧ SIM τ (MIX h1 (F h).2))) (hr : ∀ (d : Nat) (h1 : HT), MI h1 → S_ Mr (d + K) 0 0 (.inr (some 81) :: as) τ h1 (Zi τ fun v h2 => v = (F h1).1 ∧ h2 = (F h1).2)) : OPS Mc Mr K 0 0 as τ h := by
  refine OPS_m (fun v h1 => v = (F h).1 ∧ RF h h1 ∧ SIM τ (MIX h1 (F h).2)) hc (fun v h1 q => q.2.2.1) (fun d v h1 q => ?_)
  obtain ⟨rfl, q2, q3⟩ := q
  refine S_mono ?_ (hr d h1 (x.ref q2))
  rintro r τ2 h2 ⟨rfl, w, rfl, rfl, rfl⟩
  rw [mix h1 q2]
  exact ⟨rfl, _, rfl, rfl, q3⟩
theorem ok_pw {p w : Int} (hp : 0 ≤ p ∧ p ≤ 9) (hw : 0 ≤ w ∧ w ≤ 1) : f_okc (10 * p + w) ∧ (10 * p + w).tdiv 10 = p ∧ (10 * p + w).tmod 10 = w := by
  have e1 : (10 * p + w).tdiv 10 = p := by rw [Int.tdiv_eq_ediv_of_nonneg (by omega)]; omega
  have e2 : (10 * p + w).tmod 10 = w := by rw [Int.tmod_eq_emod_of_nonneg (by omega)]; omega
  exact ⟨Or.inl ⟨by omega, by omega, by rw [e2]; omega⟩, e1, e2⟩
theorem x_doStep0 (d : Nat) (τ : TT) (h : HT) (hT : TK τ) (x : MI h) (y : XR τ h) (s : Int) (h0 : h 0 6 = 0) : S_ mX11_doStep (d + 3) 0 0 [.inr (some 0), .inl s] τ h (Zi τ fun v h' => (h 81 11 = 0 → v = -3 ∧ h' = h) ∧ (h 81 11 ≠ 0 → DSP h h' (h 81 1) (T_m h) s v ∧ RF h h')) := by
  have da := y.da_
  refine S_go (k := 1) (ls := [some (.inr (some 0)), some (.inl s), none]) (by decide) rfl (Nat.le_of_ble_eq_true rfl) rfl ?_
  refine G_aload_n (i := 0) dX11_doStep_0 rfl rfl ?_
  refine G_getI (v := h 0 6) fX11_40 rfl dX11_doStep_1 (o0 hT) rfl ?_
  refine G_if_ne (tgt := 10) dX11_doStep_4 (by decide) (by omega) (fun c_1 => ?_) (fun c_1 => ?_)
  · exfalso; omega
  · refine G_bipush dX11_doStep_7 (by decide) ?_
    refine G_iretZ rfl dX11_doStep_9 ?_
    exact ⟨fun _ => ⟨rfl, rfl⟩, fun q => by omega⟩

theorem x_doStepX (d : Nat) (τ : TT) (h : HT) (hT : TK τ) (x : MI h) (y : XR τ h) (s : Int) (hs : f_okc s) : S_ mX11_doStep (d + 3) 0 0 [.inr (some 0), .inl s] τ h (Zi τ fun v h' => (h 81 11 = 0 → v = -3 ∧ h' = h) ∧ (h 81 11 ≠ 0 → DSP h h' (h 81 1) (T_m h) s v ∧ RF h h')) := by
  have da := y.da_
  by_cases z : h 0 6 = 0
  · exact x_doStep0 d τ h hT x y s z
  · have d_ := x.d_
    have n_ := x.n_
    refine S_mono ?_ (x_doStep d τ h hT (h 81 1) (T_m h) (by omega) y.ft (T_m_ok x) (by omega) y.cn_ y.dc_ (fun k hk => (y.cr_ k hk).2) s hs)
    rintro r τ2 h2 ⟨rfl, w, rfl, q⟩
    exact ⟨rfl, w, rfl, fun q => by omega, fun _ => q⟩
theorem x_passM (d : Nat) (τ : TT) (h : HT) (hT : TK τ) (x : MI h) (y : XR τ h) (p w : Int) (r_p : -2147483648 ≤ p ∧ p ≤ 2147483647) (r_w : -2147483648 ≤ w ∧ w ≤ 2147483647) : S_ mX11_pass (d + 4) 0 0 [.inr (some 0), .inl p, .inl w] τ h (Zi τ fun v h' => v = (f_pass h p w).1 ∧ RF h h' ∧ SIM τ (MIX h' (f_pass h p w).2)) := by
  have n9 := x.n9
  have d1 := x.d1
  have n_ := x.n_
  have fn := y.fn_
  have da := y.da_
  have cn := y.cn_
  have r_r_ := x.r_
  have s_s_ := x.s_
  have dc := y.dc_
  have pc := y.pc_
  have pp := x.p_
  have fgc := y.fg_.1
  have f10 := x.f_
  have ra := y.ra_
  have a100 := x.a_
  have pic := y.pi_
  have t40 := x.t_
  have txx := y.tx_
  have e80 := x.e_
  refine S_go (k := 0) (ls := [some (.inr (some 0)), some (.inl p), some (.inl w)]) (by decide) rfl (Nat.le_of_ble_eq_true rfl) rfl ?_
  refine G_aload_n (i := 0) dX11_pass_0 rfl rfl ?_
  refine G_iload_n (i := 1) dX11_pass_1 rfl rfl ?_
  refine G_cVq (as := [.inl p]) qX11_137 (x_isPlace (d + 3) τ h hT p (by omega) (by omega)) rfl rfl (Nat.le_of_ble_eq_true rfl) (o0 hT) dX11_pass_2 ?_
  refine G_ifb_ne (tgt := 10) dX11_pass_5 (by decide) (fun c_1 => ?_) (fun c_1 => ?_)
  · refine G_iload_n (i := 2) dX11_pass_10 rfl rfl ?_
    refine G_if_eq (tgt := 22) dX11_pass_11 (by decide) (by omega) (fun c_2 => ?_) (fun c_2 => ?_)
    · refine G_aload_n (i := 0) dX11_pass_22 rfl rfl ?_
      refine G_bipush dX11_pass_23 (by decide) ?_
      refine G_iload_n (i := 1) dX11_pass_25 rfl rfl ?_
      refine G_imul dX11_pass_26 ?_
      refine G_iload_n (i := 2) dX11_pass_27 rfl rfl ?_
      refine G_iadd dX11_pass_28 ?_
      have okk := ok_pw (p := p) (w := w) (by omega) (by omega)
      refine G_cVi (as := [.inl ((10 * p) + w)]) qX11_177 (x_doStepX d τ h hT x y ((10 * p) + w) okk.1) rfl rfl (Nat.le_of_ble_eq_true rfl) (o0 hT) dX11_pass_29 (fun v1 h1 e1 => ?_)
      obtain ⟨e1, e2⟩ := e1
      refine G_iretZ rfl dX11_pass_32 ?_
      have es : f_stp h (10 * p + w) = f_pass h p w := by unfold f_stp; rw [if_neg (by omega), okk.2.1, okk.2.2]
      rw [← es]
      by_cases z : h 81 11 = 0
      · obtain ⟨rfl, e3⟩ := e1 z
        rw [e3]
        have ef : f_pass h p w = (-3, h) := by unfold f_pass; rw [if_neg (by omega), if_neg (by omega), if_pos z]
        rw [es, ef]
        exact ⟨rfl, RF.rf, by rw [MIX_self]; exact ⟨hT, x, y⟩⟩
      · obtain ⟨D, rf⟩ := e2 z
        obtain ⟨q1, q2, q3⟩ := SIM_step ⟨hT, x, y⟩ z okk.1 D
        exact ⟨q3 (fun _ => by rw [okk.2.1]; omega), rf, q1⟩
    · refine G_iload_n (i := 2) dX11_pass_14 rfl rfl ?_
      refine G_iconst dX11_pass_15 ?_
      refine G_icmp_eq (tgt := 22) dX11_pass_16 (by decide) (by omega) (by decide) (fun c_3 => ?_) (fun c_3 => ?_)
      · refine G_aload_n (i := 0) dX11_pass_22 rfl rfl ?_
        refine G_bipush dX11_pass_23 (by decide) ?_
        refine G_iload_n (i := 1) dX11_pass_25 rfl rfl ?_
        refine G_imul dX11_pass_26 ?_
        refine G_iload_n (i := 2) dX11_pass_27 rfl rfl ?_
        refine G_iadd dX11_pass_28 ?_
        have okk := ok_pw (p := p) (w := w) (by omega) (by omega)
        refine G_cVi (as := [.inl ((10 * p) + w)]) qX11_177 (x_doStepX d τ h hT x y ((10 * p) + w) okk.1) rfl rfl (Nat.le_of_ble_eq_true rfl) (o0 hT) dX11_pass_29 (fun v1 h1 e1 => ?_)
        obtain ⟨e1, e2⟩ := e1
        refine G_iretZ rfl dX11_pass_32 ?_
        have es : f_stp h (10 * p + w) = f_pass h p w := by unfold f_stp; rw [if_neg (by omega), okk.2.1, okk.2.2]
        rw [← es]
        by_cases z : h 81 11 = 0
        · obtain ⟨rfl, e3⟩ := e1 z
          rw [e3]
          have ef : f_pass h p w = (-3, h) := by unfold f_pass; rw [if_neg (by omega), if_neg (by omega), if_pos z]
          rw [es, ef]
          exact ⟨rfl, RF.rf, by rw [MIX_self]; exact ⟨hT, x, y⟩⟩
        · obtain ⟨D, rf⟩ := e2 z
          obtain ⟨q1, q2, q3⟩ := SIM_step ⟨hT, x, y⟩ z okk.1 D
          exact ⟨q3 (fun _ => by rw [okk.2.1]; omega), rf, q1⟩
      · refine G_bipush dX11_pass_19 (by decide) ?_
        refine G_iretZ rfl dX11_pass_21 ?_
        have ef : f_pass h p w = ((-2), h) := by unfold f_pass; rw [if_neg (by omega), if_pos (by omega)]
        rw [ef]
        exact ⟨rfl, RF.rf, by rw [MIX_self]; exact ⟨hT, x, y⟩⟩
  · refine G_iconst dX11_pass_8 ?_
    refine G_iretZ rfl dX11_pass_9 ?_
    have ef : f_pass h p w = ((-1), h) := by unfold f_pass; rw [if_pos (by omega)]
    rw [ef]
    exact ⟨rfl, RF.rf, by rw [MIX_self]; exact ⟨hT, x, y⟩⟩

theorem op_pass {τ : TT} {h : HT} (s : SIM τ h) (p w : Int) (r_p : -2147483648 ≤ p ∧ p ≤ 2147483647) (r_w : -2147483648 ≤ w ∧ w ≤ 2147483647) : OPS mX11_pass mX12_pass 20 0 0 [.inl p, .inl w] τ h := by
  obtain ⟨hT, x, y⟩ := s
  exact OPS_x x (fun g => f_pass g p w) (fun h1 rf => f_pass_mix rf p w) (fun d => x_passM (d + 16) τ h hT x y p w r_p r_w) (fun d h1 x1 => m_pass (d + 18) τ h1 hT p w r_p r_w x1.n9 x1.d1 x1.s_ x1.ha_ x1.le_)
theorem x_walkM (d : Nat) (τ : TT) (h : HT) (hT : TK τ) (x : MI h) (y : XR τ h) (w : Int) (r_w : -2147483648 ≤ w ∧ w ≤ 2147483647) : S_ mX11_walk (d + 4) 0 0 [.inr (some 0), .inl w] τ h (Zi τ fun v h' => v = (f_walk h w).1 ∧ RF h h' ∧ SIM τ (MIX h' (f_walk h w).2)) := by
  have n9 := x.n9
  have d1 := x.d1
  have n_ := x.n_
  have fn := y.fn_
  have da := y.da_
  have cn := y.cn_
  have r_r_ := x.r_
  have s_s_ := x.s_
  have dc := y.dc_
  have pc := y.pc_
  have pp := x.p_
  have fgc := y.fg_.1
  have f10 := x.f_
  have ra := y.ra_
  have a100 := x.a_
  have pic := y.pi_
  have t40 := x.t_
  have txx := y.tx_
  have e80 := x.e_
  refine S_go (k := 0) (ls := [some (.inr (some 0)), some (.inl w)]) (by decide) rfl (Nat.le_of_ble_eq_true rfl) rfl ?_
  refine G_iload_n (i := 1) dX11_walk_0 rfl rfl ?_
  refine G_if_eq (tgt := 12) dX11_walk_1 (by decide) (by omega) (fun c_1 => ?_) (fun c_1 => ?_)
  · refine G_aload_n (i := 0) dX11_walk_12 rfl rfl ?_
    refine G_bipush dX11_walk_13 (by decide) ?_
    refine G_iload_n (i := 1) dX11_walk_15 rfl rfl ?_
    refine G_iadd dX11_walk_16 ?_
    have okk : f_okc (100 + w) := Or.inr (by omega)
    refine G_cVi (as := [.inl (100 + w)]) qX11_177 (x_doStepX d τ h hT x y (100 + w) okk) rfl rfl (Nat.le_of_ble_eq_true rfl) (o0 hT) dX11_walk_17 (fun v1 h1 e1 => ?_)
    obtain ⟨e1, e2⟩ := e1
    refine G_iretZ rfl dX11_walk_20 ?_
    have es : f_stp h (100 + w) = f_walk h w := by unfold f_stp; rw [if_pos (by omega), show 100 + w - 100 = w by omega]
    rw [← es]
    by_cases z : h 81 11 = 0
    · obtain ⟨rfl, e3⟩ := e1 z
      rw [e3]
      have ef : f_walk h w = (-3, h) := by unfold f_walk; rw [if_neg (by omega), if_pos z]
      rw [es, ef]
      exact ⟨rfl, RF.rf, by rw [MIX_self]; exact ⟨hT, x, y⟩⟩
    · obtain ⟨D, rf⟩ := e2 z
      obtain ⟨q1, q2, q3⟩ := SIM_step ⟨hT, x, y⟩ z okk D
      exact ⟨q3 (fun q => by omega), rf, q1⟩
  · refine G_iload_n (i := 1) dX11_walk_4 rfl rfl ?_
    refine G_iconst dX11_walk_5 ?_
    refine G_icmp_eq (tgt := 12) dX11_walk_6 (by decide) (by omega) (by decide) (fun c_2 => ?_) (fun c_2 => ?_)
    · refine G_aload_n (i := 0) dX11_walk_12 rfl rfl ?_
      refine G_bipush dX11_walk_13 (by decide) ?_
      refine G_iload_n (i := 1) dX11_walk_15 rfl rfl ?_
      refine G_iadd dX11_walk_16 ?_
      have okk : f_okc (100 + w) := Or.inr (by omega)
      refine G_cVi (as := [.inl (100 + w)]) qX11_177 (x_doStepX d τ h hT x y (100 + w) okk) rfl rfl (Nat.le_of_ble_eq_true rfl) (o0 hT) dX11_walk_17 (fun v1 h1 e1 => ?_)
      obtain ⟨e1, e2⟩ := e1
      refine G_iretZ rfl dX11_walk_20 ?_
      have es : f_stp h (100 + w) = f_walk h w := by unfold f_stp; rw [if_pos (by omega), show 100 + w - 100 = w by omega]
      rw [← es]
      by_cases z : h 81 11 = 0
      · obtain ⟨rfl, e3⟩ := e1 z
        rw [e3]
        have ef : f_walk h w = (-3, h) := by unfold f_walk; rw [if_neg (by omega), if_pos z]
        rw [es, ef]
        exact ⟨rfl, RF.rf, by rw [MIX_self]; exact ⟨hT, x, y⟩⟩
      · obtain ⟨D, rf⟩ := e2 z
        obtain ⟨q1, q2, q3⟩ := SIM_step ⟨hT, x, y⟩ z okk D
        exact ⟨q3 (fun q => by omega), rf, q1⟩
    · refine G_bipush dX11_walk_9 (by decide) ?_
      refine G_iretZ rfl dX11_walk_11 ?_
      have ef : f_walk h w = ((-2), h) := by unfold f_walk; rw [if_pos (by omega)]
      rw [ef]
      exact ⟨rfl, RF.rf, by rw [MIX_self]; exact ⟨hT, x, y⟩⟩

theorem op_walk {τ : TT} {h : HT} (s : SIM τ h) (w : Int) (r_w : -2147483648 ≤ w ∧ w ≤ 2147483647) : OPS mX11_walk mX12_walk 20 0 0 [.inl w] τ h := by
  obtain ⟨hT, x, y⟩ := s
  exact OPS_x x (fun g => f_walk g w) (fun h1 rf => f_walk_mix rf w) (fun d => x_walkM (d + 16) τ h hT x y w r_w) (fun d h1 x1 => m_walk (d + 19) τ h1 hT w r_w x1.d1 x1.d3 x1.r_ x1.s_ x1.le_)
