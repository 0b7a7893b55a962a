/-! operations: questions -/
theorem x_personAt (d : Nat) (τ : TT) (h : HT) (hT : TK τ) (n : Int) (r_n : -2147483648 ≤ n ∧ n ≤ 2147483647) (hp : 0 ≤ h 0 1 ∧ h 0 1 ≤ 15) : S_ mX11_personAt d 0 0 [.inr (some 0), .inl n] τ h (Zr τ fun x h' => x = (if 0 ≤ n ∧ n < h 0 1 then τ.2.2.2 1 n.toNat else none) ∧ h' = h) := by
  refine S_go (k := 0) (ls := [some (.inr (some 0)), some (.inl n)]) (by decide) rfl (Nat.le_of_ble_eq_true rfl) rfl ?_
  refine G_iload_n (i := 1) dX11_personAt_0 rfl rfl ?_
  refine G_if_lt (tgt := 21) dX11_personAt_1 (by decide) (by omega) (fun c_1 => ?_) (fun c_1 => ?_)
  · refine G_null dX11_personAt_21 ?_
    refine G_aretZ rfl dX11_personAt_22 ?_
    exact ⟨by first | rw [if_pos (by omega)] | rw [if_neg (by omega)], rfl⟩
  · refine G_iload_n (i := 1) dX11_personAt_4 rfl rfl ?_
    refine G_aload_n (i := 0) dX11_personAt_5 rfl rfl ?_
    refine G_getI (v := h 0 1) fX11_15 rfl dX11_personAt_6 (o0 hT) rfl ?_
    refine G_icmp_ge (tgt := 21) dX11_personAt_9 (by decide) (by omega) (by omega) (fun c_2 => ?_) (fun c_2 => ?_)
    · refine G_null dX11_personAt_21 ?_
      refine G_aretZ rfl dX11_personAt_22 ?_
      exact ⟨by first | rw [if_pos (by omega)] | rw [if_neg (by omega)], rfl⟩
    · refine G_aload_n (i := 0) dX11_personAt_12 rfl rfl ?_
      refine G_getR fX11_11 rfl dX11_personAt_13 (o0 hT) (r0_0 hT) ?_
      refine G_iload_n (i := 1) dX11_personAt_16 rfl rfl ?_
      refine G_aald (by decide) dX11_personAt_17 (o1 hT) (by omega) rfl ?_
      refine G_goto (tgt := 22) dX11_personAt_18 (by decide) ?_
      refine G_aretZ rfl dX11_personAt_22 ?_
      exact ⟨by first | rw [if_pos (by omega)] | rw [if_neg (by omega)], rfl⟩

theorem x_tapeAt (d : Nat) (τ : TT) (h : HT) (hT : TK τ) (n : Int) (r_n : -2147483648 ≤ n ∧ n ≤ 2147483647) : S_ mX11_tapeAt d 0 0 [.inr (some 0), .inl n] τ h (Zr τ fun x h' => x = (if 0 ≤ n ∧ n < 6 then τ.2.2.2 68 n.toNat else none) ∧ h' = h) := by
  refine S_go (k := 0) (ls := [some (.inr (some 0)), some (.inl n)]) (by decide) rfl (Nat.le_of_ble_eq_true rfl) rfl ?_
  refine G_iload_n (i := 1) dX11_tapeAt_0 rfl rfl ?_
  refine G_if_lt (tgt := 19) dX11_tapeAt_1 (by decide) (by omega) (fun c_1 => ?_) (fun c_1 => ?_)
  · refine G_null dX11_tapeAt_19 ?_
    refine G_aretZ rfl dX11_tapeAt_20 ?_
    exact ⟨by first | rw [if_pos (by omega)] | rw [if_neg (by omega)], rfl⟩
  · refine G_iload_n (i := 1) dX11_tapeAt_4 rfl rfl ?_
    refine G_bipush dX11_tapeAt_5 (by decide) ?_
    refine G_icmp_ge (tgt := 19) dX11_tapeAt_7 (by decide) (by omega) (by decide) (fun c_2 => ?_) (fun c_2 => ?_)
    · refine G_null dX11_tapeAt_19 ?_
      refine G_aretZ rfl dX11_tapeAt_20 ?_
      exact ⟨by first | rw [if_pos (by omega)] | rw [if_neg (by omega)], rfl⟩
    · refine G_aload_n (i := 0) dX11_tapeAt_10 rfl rfl ?_
      refine G_getR fX11_109 rfl dX11_tapeAt_11 (o0 hT) (r0_18 hT) ?_
      refine G_iload_n (i := 1) dX11_tapeAt_14 rfl rfl ?_
      refine G_aald (by decide) dX11_tapeAt_15 (o68 hT) (by omega) rfl ?_
      refine G_goto (tgt := 20) dX11_tapeAt_16 (by decide) ?_
      refine G_aretZ rfl dX11_tapeAt_20 ?_
      exact ⟨by first | rw [if_pos (by omega)] | rw [if_neg (by omega)], rfl⟩

theorem tape_ref {τ : TT} (hT : TK τ) {T : Nat} (h : T < 6) : ∃ b : Nat, b = 69 + 2 * T ∧ τ.2.2.2 68 T = some b ∧ TP τ b := by
  rcases (show T = 0 ∨ T = 1 ∨ T = 2 ∨ T = 3 ∨ T = 4 ∨ T = 5 by omega) with rfl | rfl | rfl | rfl | rfl | rfl
  · exact ⟨69, rfl, r68_0 hT, tp69 hT⟩
  · exact ⟨71, rfl, r68_1 hT, tp71 hT⟩
  · exact ⟨73, rfl, r68_2 hT, tp73 hT⟩
  · exact ⟨75, rfl, r68_3 hT, tp75 hT⟩
  · exact ⟨77, rfl, r68_4 hT, tp77 hT⟩
  · exact ⟨79, rfl, r68_5 hT, tp79 hT⟩
/-- a figure's rows, here and there -/
theorem stL_fig {h : HT} {a f : Nat} {L : Nat} (h5 : 0 ≤ h a 1 ∧ h a 1 ≤ L) (e : stL h a = figL h f) : (h a 1).toNat = (h 102 f).toNat ∧ ∀ k : Nat, k < (h 102 f).toNat → h (a + 1) k = h 103 (300 * f + k) := by
  have l1 := congrArg List.length e
  rw [stL_len, figL_len] at l1
  refine ⟨l1, fun k hk => ?_⟩
  have this : (stL h a)[k]? = (figL h f)[k]? := congrArg (fun l => l[k]?) e
  rw [stL_at (by omega), figL_at hk] at this
  exact Option.some.inj this
theorem x_girthQ (d : Nat) (τ : TT) (h : HT) (hT : TK τ) (x : MI h) (y : XR τ h)  : S_ mX11_girth (d + 1) 0 0 [.inr (some 0)] τ h (Zi τ fun v h' => v = 10 + (h 81 15).tdiv 3 ∧ h' = h) := by
  have n9 := x.n9
  have d1 := x.d1
  have n_ := x.n_
  have fn := y.fn_
  have da := y.da_
  have cn := y.cn_
  have r_r_ := x.r_
  have s_s_ := x.s_
  have dc := y.dc_
  have pc := y.pc_
  have pp := x.p_
  have fgc := y.fg_.1
  have f10 := x.f_
  have ra := y.ra_
  have a100 := x.a_
  have pic := y.pi_
  have t40 := x.t_
  have txx := y.tx_
  have e80 := x.e_
  refine S_go (k := 0) (ls := [some (.inr (some 0))]) (by decide) rfl (Nat.le_of_ble_eq_true rfl) rfl ?_
  refine G_aload_n (i := 0) dX11_girth_0 rfl rfl ?_
  refine G_getR fX11_36 rfl dX11_girth_1 (o0 hT) (r0_5 hT) ?_
  refine G_cVq (as := []) qX11_181 (x_girthNow d τ h 6 (fl6 hT) (by omega)) rfl rfl (Nat.le_of_ble_eq_true rfl) (o6 hT) dX11_girth_4 ?_
  refine G_iretZ rfl dX11_girth_7 ?_
  exact ⟨by rw [fn.2.2], rfl⟩

theorem op_girth {τ : TT} {h : HT} (s : SIM τ h)  : OPS mX11_girth mX12_girth 20 0 0 [] τ h := by
  obtain ⟨hT, x, y⟩ := s
  exact OPS_p ⟨hT, x, y⟩ _ (fun d => x_girthQ (d + 19) τ h hT x y  ) (fun d => m_girth (d + 20) τ h hT (by have := x.r_; omega))
theorem x_stepQ (d : Nat) (τ : TT) (h : HT) (hT : TK τ) (x : MI h) (y : XR τ h) (i : Int) (r_i : -2147483648 ≤ i ∧ i ≤ 2147483647) : S_ mX11_step (d + 1) 0 0 [.inr (some 0), .inl i] τ h (Zi τ fun v h' => v = f_step h i ∧ h' = h) := by
  have n9 := x.n9
  have d1 := x.d1
  have n_ := x.n_
  have fn := y.fn_
  have da := y.da_
  have cn := y.cn_
  have r_r_ := x.r_
  have s_s_ := x.s_
  have dc := y.dc_
  have pc := y.pc_
  have pp := x.p_
  have fgc := y.fg_.1
  have f10 := x.f_
  have ra := y.ra_
  have a100 := x.a_
  have pic := y.pi_
  have t40 := x.t_
  have txx := y.tx_
  have e80 := x.e_
  refine S_go (k := 0) (ls := [some (.inr (some 0)), some (.inl i)]) (by decide) rfl (Nat.le_of_ble_eq_true rfl) rfl ?_
  refine G_aload_n (i := 0) dX11_step_0 rfl rfl ?_
  refine G_getR fX11_49 rfl dX11_step_1 (o0 hT) (r0_7 hT) ?_
  refine G_iload_n (i := 1) dX11_step_4 rfl rfl ?_
  refine G_cVq (as := [.inl i]) qX11_185 (x_codeAt d τ h 11 300 (st11 hT) i (by omega) (by omega)) rfl rfl (Nat.le_of_ble_eq_true rfl) (o11 hT) dX11_step_5 ?_
  refine G_iretZ rfl dX11_step_8 ?_
  exact ⟨by unfold x_cod f_step; by_cases z : 0 ≤ i ∧ i < h 11 1; (rw [if_pos z, if_pos (by omega)]; exact y.dd_ i.toNat (by omega)); (rw [if_neg z, if_neg (by omega)]), rfl⟩

theorem op_step {τ : TT} {h : HT} (s : SIM τ h) (i : Int) (r_i : -2147483648 ≤ i ∧ i ≤ 2147483647) : OPS mX11_step mX12_step 20 0 0 [.inl i] τ h := by
  obtain ⟨hT, x, y⟩ := s
  exact OPS_p ⟨hT, x, y⟩ _ (fun d => x_stepQ (d + 19) τ h hT x y i r_i) (fun d => m_step (d + 19) τ h hT i r_i x.s_)
theorem x_rowsQ (d : Nat) (τ : TT) (h : HT) (hT : TK τ) (x : MI h) (y : XR τ h)  : S_ mX11_rows d 0 0 [.inr (some 0)] τ h (Zi τ fun v h' => v = f_rows h ∧ h' = h) := by
  have n9 := x.n9
  have d1 := x.d1
  have n_ := x.n_
  have fn := y.fn_
  have da := y.da_
  have cn := y.cn_
  have r_r_ := x.r_
  have s_s_ := x.s_
  have dc := y.dc_
  have pc := y.pc_
  have pp := x.p_
  have fgc := y.fg_.1
  have f10 := x.f_
  have ra := y.ra_
  have a100 := x.a_
  have pic := y.pi_
  have t40 := x.t_
  have txx := y.tx_
  have e80 := x.e_
  refine S_go (k := 0) (ls := [some (.inr (some 0))]) (by decide) rfl (Nat.le_of_ble_eq_true rfl) rfl ?_
  refine G_aload_n (i := 0) dX11_rows_0 rfl rfl ?_
  refine G_getR fX11_56 rfl dX11_rows_1 (o0 hT) (r0_8 hT) ?_
  refine G_getI (v := h 13 1) fX11_188 rfl dX11_rows_4 (o13 hT) rfl ?_
  refine G_iretZ rfl dX11_rows_7 ?_
  exact ⟨cn.2, rfl⟩

theorem op_rows {τ : TT} {h : HT} (s : SIM τ h)  : OPS mX11_rows mX12_rows 20 0 0 [] τ h := by
  obtain ⟨hT, x, y⟩ := s
  exact OPS_p ⟨hT, x, y⟩ _ (fun d => x_rowsQ (d + 20) τ h hT x y  ) (fun d => m_rows (d + 20) τ h hT)
theorem XR.topok {τ : TT} {h : HT} (x : MI h) (y : XR τ h) : x_topok h := by
  intro r p hr hp
  have cn := y.cn_
  have r1 := x.r_
  have n1 := x.n9
  rw [(y.cl_ r p (by omega) (by omega)).2.2]
  have := f_top_r x.cr_ (r := (r : Int)) (p := (p : Int)) n1.2 (by omega) (by omega)
  omega
theorem f_top_lt {h : HT} (x : MI h) (ok : f_cok h) {r p : Int} (hr : 0 ≤ r ∧ r < h 81 15) (hp : 0 ≤ p ∧ p < h 81 1) : 0 ≤ f_top h r p ∧ f_top h r p < h 81 1 := by
  have q := f_aft_r hp
  have r1 := x.r_
  have n1 := x.n9
  have := f_top_r x.cr_ (r := r) (p := p) n1.2 (by omega) hp
  refine ⟨this.1, ?_⟩
  unfold f_top
  split
  · have := ok r.toNat (f_aft (h 81 1) p).toNat (by omega) (by omega)
    rwa [show 9 * r.toNat + (f_aft (h 81 1) p).toNat = (9 * r + f_aft (h 81 1) p).toNat by omega] at this
  · have := ok r.toNat p.toNat (by omega) (by omega)
    rwa [show 9 * r.toNat + p.toNat = (9 * r + p).toNat by omega] at this
theorem x_clothQ (d : Nat) (τ : TT) (h : HT) (hT : TK τ) (x : MI h) (y : XR τ h) (r p w : Int) (r_r : -2147483648 ≤ r ∧ r ≤ 2147483647) (r_p : -2147483648 ≤ p ∧ p ≤ 2147483647) (r_w : -2147483648 ≤ w ∧ w ≤ 2147483647) : S_ mX11_cloth (d + 2) 0 0 [.inr (some 0), .inl r, .inl p, .inl w] τ h (Zi τ fun v h' => v = f_cloth h r p w ∧ h' = h) := by
  have n9 := x.n9
  have d1 := x.d1
  have n_ := x.n_
  have fn := y.fn_
  have da := y.da_
  have cn := y.cn_
  have r_r_ := x.r_
  have s_s_ := x.s_
  have dc := y.dc_
  have pc := y.pc_
  have pp := x.p_
  have fgc := y.fg_.1
  have f10 := x.f_
  have ra := y.ra_
  have a100 := x.a_
  have pic := y.pi_
  have t40 := x.t_
  have txx := y.tx_
  have e80 := x.e_
  refine S_go (k := 0) (ls := [some (.inr (some 0)), some (.inl r), some (.inl p), some (.inl w)]) (by decide) rfl (Nat.le_of_ble_eq_true rfl) rfl ?_
  refine G_aload_n (i := 0) dX11_cloth_0 rfl rfl ?_
  refine G_getR fX11_56 rfl dX11_cloth_1 (o0 hT) (r0_8 hT) ?_
  refine G_iload_n (i := 1) dX11_cloth_4 rfl rfl ?_
  refine G_iload_n (i := 2) dX11_cloth_5 rfl rfl ?_
  refine G_cVq (as := [.inl r, .inl p]) qX11_191 (x_hasM (d + 1) τ h hT r p (by omega) (by omega) (by omega) (by omega)) rfl rfl (Nat.le_of_ble_eq_true rfl) (o13 hT) dX11_cloth_6 ?_
  refine G_ifb_ne (tgt := 14) dX11_cloth_9 (by decide) (fun c_1 => ?_) (fun c_1 => ?_)
  · refine G_iload_n (i := 3) dX11_cloth_14 rfl rfl ?_
    by_cases hsw : 0 ≤ w ∧ w ≤ 2
    · have hsx : w = 0 ∨ w = 1 ∨ w = 2 := by omega
      rcases hsx with hsx | hsx | hsx
      · rw [hsx]
        refine G_tswIn (off := 25) (tgt := 40) dX11_cloth_15 (by decide) (by decide) rfl (by decide) ?_
        refine G_aload_n (i := 0) dX11_cloth_40 rfl rfl ?_
        refine G_getR fX11_56 rfl dX11_cloth_41 (o0 hT) (r0_8 hT) ?_
        refine G_iload_n (i := 1) dX11_cloth_44 rfl rfl ?_
        refine G_iload_n (i := 2) dX11_cloth_45 rfl rfl ?_
        refine G_cVq (as := [.inl r, .inl p]) qX11_195 (x_ribbonAt (d + 1) τ h hT r p (by omega) (by omega)) rfl rfl (Nat.le_of_ble_eq_true rfl) (o13 hT) dX11_cloth_46 ?_
        refine G_iretZ rfl dX11_cloth_49 ?_
        exact ⟨by unfold f_cloth; (repeat (first | rw [if_pos (by omega)] | rw [if_neg (by omega)])); have c1 := y.cl_ r.toNat p.toNat (by omega) (by omega); rw [show (9 * r + p).toNat = 9 * r.toNat + p.toNat by omega]; rw [show ((r.toNat : Nat) : Int) = r by omega, show ((p.toNat : Nat) : Int) = p by omega] at c1; exact c1.1, rfl⟩
      · rw [hsx]
        refine G_tswIn (off := 35) (tgt := 50) dX11_cloth_15 (by decide) (by decide) rfl (by decide) ?_
        refine G_aload_n (i := 0) dX11_cloth_50 rfl rfl ?_
        refine G_getR fX11_56 rfl dX11_cloth_51 (o0 hT) (r0_8 hT) ?_
        refine G_iload_n (i := 1) dX11_cloth_54 rfl rfl ?_
        refine G_iload_n (i := 2) dX11_cloth_55 rfl rfl ?_
        refine G_cVq (as := [.inl r, .inl p]) qX11_199 (x_markAt (d + 1) τ h hT r p (by omega) (by omega)) rfl rfl (Nat.le_of_ble_eq_true rfl) (o13 hT) dX11_cloth_56 ?_
        refine G_iretZ rfl dX11_cloth_59 ?_
        exact ⟨by unfold f_cloth; (repeat (first | rw [if_pos (by omega)] | rw [if_neg (by omega)])); have c1 := y.cl_ r.toNat p.toNat (by omega) (by omega); rw [show (9 * r + p).toNat = 9 * r.toNat + p.toNat by omega]; rw [show ((r.toNat : Nat) : Int) = r by omega, show ((p.toNat : Nat) : Int) = p by omega] at c1; exact c1.2.1, rfl⟩
      · rw [hsx]
        refine G_tswIn (off := 45) (tgt := 60) dX11_cloth_15 (by decide) (by decide) rfl (by decide) ?_
        refine G_aload_n (i := 0) dX11_cloth_60 rfl rfl ?_
        refine G_getR fX11_56 rfl dX11_cloth_61 (o0 hT) (r0_8 hT) ?_
        refine G_iload_n (i := 1) dX11_cloth_64 rfl rfl ?_
        refine G_iload_n (i := 2) dX11_cloth_65 rfl rfl ?_
        refine G_cVq (as := [.inl r, .inl p]) qX11_202 (x_topAt d τ h hT r p (by omega) (by omega) (y.topok x) (by omega) (by omega)) rfl rfl (Nat.le_of_ble_eq_true rfl) (o13 hT) dX11_cloth_66 ?_
        refine G_iretZ rfl dX11_cloth_69 ?_
        exact ⟨by unfold f_cloth; (repeat (first | rw [if_pos (by omega)] | rw [if_neg (by omega)])); unfold x_tat; have c1 := y.cl_ r.toNat p.toNat (by omega) (by omega); rw [show (9 * r + p).toNat = 9 * r.toNat + p.toNat by omega]; rw [show ((r.toNat : Nat) : Int) = r by omega, show ((p.toNat : Nat) : Int) = p by omega] at c1; rw [c1.2.2]; have t8 := f_top_r x.cr_ (r := r) (p := p) n9.2 (by omega) (by omega); have tk := y.ok_; exact y.ce_ (Or.inr (by omega)) _ (by have := f_top_lt x y.ok_ (r := r) (p := p) (by omega) (by omega); omega), rfl⟩
    · refine G_tswOut (tgt := 70) dX11_cloth_15 (by omega) (by omega) (by decide) ?_
      refine G_iconst dX11_cloth_70 ?_
      refine G_iretZ rfl dX11_cloth_71 ?_
      exact ⟨by unfold f_cloth; (repeat (first | rw [if_pos (by omega)] | rw [if_neg (by omega)])), rfl⟩
  · refine G_iconst dX11_cloth_12 ?_
    refine G_iretZ rfl dX11_cloth_13 ?_
    exact ⟨by unfold f_cloth; (repeat (first | rw [if_pos (by omega)] | rw [if_neg (by omega)])), rfl⟩

theorem op_cloth {τ : TT} {h : HT} (s : SIM τ h) (r p w : Int) (r_r : -2147483648 ≤ r ∧ r ≤ 2147483647) (r_p : -2147483648 ≤ p ∧ p ≤ 2147483647) (r_w : -2147483648 ≤ w ∧ w ≤ 2147483647) : OPS mX11_cloth mX12_cloth 20 0 0 [.inl r, .inl p, .inl w] τ h := by
  obtain ⟨hT, x, y⟩ := s
  exact OPS_p ⟨hT, x, y⟩ _ (fun d => x_clothQ (d + 18) τ h hT x y r p w r_r r_p r_w) (fun d => m_cloth (d + 18) τ h hT r p w r_r r_p r_w x.n9 x.r_ x.cr_ x.cm_)
theorem x_traceQ (d : Nat) (τ : TT) (h : HT) (hT : TK τ) (x : MI h) (y : XR τ h) (i : Int) (r_i : -2147483648 ≤ i ∧ i ≤ 2147483647) : S_ mX11_trace (d + 1) 0 0 [.inr (some 0), .inl i] τ h (Zi τ fun v h' => v = f_trace h i ∧ h' = h) := by
  have n9 := x.n9
  have d1 := x.d1
  have n_ := x.n_
  have fn := y.fn_
  have da := y.da_
  have cn := y.cn_
  have r_r_ := x.r_
  have s_s_ := x.s_
  have dc := y.dc_
  have pc := y.pc_
  have pp := x.p_
  have fgc := y.fg_.1
  have f10 := x.f_
  have ra := y.ra_
  have a100 := x.a_
  have pic := y.pi_
  have t40 := x.t_
  have txx := y.tx_
  have e80 := x.e_
  refine S_go (k := 0) (ls := [some (.inr (some 0)), some (.inl i)]) (by decide) rfl (Nat.le_of_ble_eq_true rfl) rfl ?_
  refine G_aload_n (i := 0) dX11_trace_0 rfl rfl ?_
  refine G_getR fX11_22 rfl dX11_trace_1 (o0 hT) (r0_2 hT) ?_
  refine G_iload_n (i := 1) dX11_trace_4 rfl rfl ?_
  refine G_cVq (as := [.inl i]) qX11_320 (x_traced d τ h hT i (by omega) (by omega)) rfl rfl (Nat.le_of_ble_eq_true rfl) (o2 hT) dX11_trace_5 ?_
  refine G_iretZ rfl dX11_trace_8 ?_
  exact ⟨by unfold f_trace; by_cases z : 0 ≤ i ∧ i < h 2 1 ∧ i < 20; (rw [if_pos z, if_pos (by omega)]; exact y.tr_ i.toNat (by omega)); (rw [if_neg z, if_neg (by omega)]), rfl⟩

theorem op_trace {τ : TT} {h : HT} (s : SIM τ h) (i : Int) (r_i : -2147483648 ≤ i ∧ i ≤ 2147483647) : OPS mX11_trace mX12_trace 20 0 0 [.inl i] τ h := by
  obtain ⟨hT, x, y⟩ := s
  exact OPS_p ⟨hT, x, y⟩ _ (fun d => x_traceQ (d + 19) τ h hT x y i r_i) (fun d => m_trace (d + 19) τ h hT i r_i (by have := x.a_; omega))
theorem x_takenQ (d : Nat) (τ : TT) (h : HT) (hT : TK τ) (x : MI h) (y : XR τ h) (i k : Int) (r_i : -2147483648 ≤ i ∧ i ≤ 2147483647) (r_k : -2147483648 ≤ k ∧ k ≤ 2147483647) : S_ mX11_taken (d + 1) 0 0 [.inr (some 0), .inl i, .inl k] τ h (Zi τ fun v h' => v = f_taken h i k ∧ h' = h) := by
  have n9 := x.n9
  have d1 := x.d1
  have n_ := x.n_
  have fn := y.fn_
  have da := y.da_
  have cn := y.cn_
  have r_r_ := x.r_
  have s_s_ := x.s_
  have dc := y.dc_
  have pc := y.pc_
  have pp := x.p_
  have fgc := y.fg_.1
  have f10 := x.f_
  have ra := y.ra_
  have a100 := x.a_
  have pic := y.pi_
  have t40 := x.t_
  have txx := y.tx_
  have e80 := x.e_
  refine S_go (k := 1) (ls := [some (.inr (some 0)), some (.inl i), some (.inl k), none]) (by decide) rfl (Nat.le_of_ble_eq_true rfl) rfl ?_
  refine G_iload_n (i := 2) dX11_taken_0 rfl rfl ?_
  refine G_if_lt (tgt := 9) dX11_taken_1 (by decide) (by omega) (fun c_1 => ?_) (fun c_1 => ?_)
  · refine G_bipush dX11_taken_9 (by decide) ?_
    refine G_iretZ rfl dX11_taken_11 ?_
    exact ⟨by unfold f_taken; (repeat (first | rw [if_pos (by omega)] | rw [if_neg (by omega)])); try omega, rfl⟩
  · refine G_iload_n (i := 2) dX11_taken_4 rfl rfl ?_
    refine G_iconst dX11_taken_5 ?_
    refine G_icmp_lt (tgt := 12) dX11_taken_6 (by decide) (by omega) (by decide) (fun c_2 => ?_) (fun c_2 => ?_)
    · refine G_aload_n (i := 0) dX11_taken_12 rfl rfl ?_
      refine G_iload_n (i := 1) dX11_taken_13 rfl rfl ?_
      refine G_cVr (as := [.inl i]) qX11_133 (x_personAt d τ h hT i (by omega) (by omega)) rfl rfl (Nat.le_of_ble_eq_true rfl) (o0 hT) dX11_taken_14 (fun x' h' e' => ?_)
      obtain ⟨rfl, eh'⟩ := e'
      rw [eh']
      clear eh'
      by_cases ho : 0 ≤ i ∧ i < h 0 1
      · rw [if_pos ho]
        obtain ⟨o, p1, p2, p3, p4, p5, p6, p7⟩ := y.pe_ (i).toNat (by omega)
        rw [p1]
        refine G_astore_n (i := 3) (ls' := [some (.inr (some 0)), some (.inl i), some (.inl k), some (.inr (some o))]) dX11_taken_17 rfl (by decide) rfl ?_
        have ki := x.ki_ i.toNat (by omega)
        refine G_aload_n (i := 3) dX11_taken_18 rfl rfl ?_
        refine G_ifnonnullS (tgt := 25) dX11_taken_19 (by decide) ?_
        refine G_aload_n (i := 3) dX11_taken_25 rfl rfl ?_
        refine G_iload_n (i := 2) dX11_taken_26 rfl rfl ?_
        refine G_cVq (as := [.inl k]) qX11_323 (x_isOf d τ h o p3 (h 82 i.toNat) k p5 ki (by omega)) rfl rfl (Nat.le_of_ble_eq_true rfl) p3 dX11_taken_27 ?_
        refine G_ifb_eq (tgt := 40) dX11_taken_30 (by decide) (fun c_3 => ?_) (fun c_3 => ?_)
        · refine G_bipush dX11_taken_40 (by decide) ?_
          refine G_iretZ rfl dX11_taken_42 ?_
          exact ⟨by unfold f_taken; (repeat (first | rw [if_pos (by omega)] | rw [if_neg (by omega)])); try omega, rfl⟩
        · refine G_aload_n (i := 3) dX11_taken_33 rfl rfl ?_
          refine G_getI (v := h o 1) fX11_144 rfl dX11_taken_34 p3 rfl ?_
          refine G_goto (tgt := 42) dX11_taken_37 (by decide) ?_
          refine G_iretZ rfl dX11_taken_42 ?_
          exact ⟨by unfold f_taken; (repeat (first | rw [if_pos (by omega)] | rw [if_neg (by omega)])); try omega, rfl⟩
      · rw [if_neg ho]
        refine G_astore_n (i := 3) (ls' := [some (.inr (some 0)), some (.inl i), some (.inl k), some (.inr none)]) dX11_taken_17 rfl (by decide) rfl ?_
        refine G_aload_n (i := 3) dX11_taken_18 rfl rfl ?_
        refine G_ifnonnullN dX11_taken_19 ?_
        refine G_bipush dX11_taken_22 (by decide) ?_
        refine G_iretZ rfl dX11_taken_24 ?_
        exact ⟨by unfold f_taken; (repeat (first | rw [if_pos (by omega)] | rw [if_neg (by omega)])); try omega, rfl⟩
    · refine G_bipush dX11_taken_9 (by decide) ?_
      refine G_iretZ rfl dX11_taken_11 ?_
      exact ⟨by unfold f_taken; (repeat (first | rw [if_pos (by omega)] | rw [if_neg (by omega)])); try omega, rfl⟩

theorem op_taken {τ : TT} {h : HT} (s : SIM τ h) (i k : Int) (r_i : -2147483648 ≤ i ∧ i ≤ 2147483647) (r_k : -2147483648 ≤ k ∧ k ≤ 2147483647) : OPS mX11_taken mX12_taken 20 0 0 [.inl i, .inl k] τ h := by
  obtain ⟨hT, x, y⟩ := s
  exact OPS_p ⟨hT, x, y⟩ _ (fun d => x_takenQ (d + 19) τ h hT x y i k r_i r_k) (fun d => m_taken (d + 18) τ h hT i k r_i r_k x.p_ x.ki_)
theorem x_toldQ (d : Nat) (τ : TT) (h : HT) (hT : TK τ) (x : MI h) (y : XR τ h) (f i : Int) (r_f : -2147483648 ≤ f ∧ f ≤ 2147483647) (r_i : -2147483648 ≤ i ∧ i ≤ 2147483647) : S_ mX11_told (d + 1) 0 0 [.inr (some 0), .inl f, .inl i] τ h (Zi τ fun v h' => v = f_told h f i ∧ h' = h) := by
  have n9 := x.n9
  have d1 := x.d1
  have n_ := x.n_
  have fn := y.fn_
  have da := y.da_
  have cn := y.cn_
  have r_r_ := x.r_
  have s_s_ := x.s_
  have dc := y.dc_
  have pc := y.pc_
  have pp := x.p_
  have fgc := y.fg_.1
  have f10 := x.f_
  have ra := y.ra_
  have a100 := x.a_
  have pic := y.pi_
  have t40 := x.t_
  have txx := y.tx_
  have e80 := x.e_
  refine S_go (k := 1) (ls := [some (.inr (some 0)), some (.inl f), some (.inl i), none]) (by decide) rfl (Nat.le_of_ble_eq_true rfl) rfl ?_
  refine G_aload_n (i := 0) dX11_told_0 rfl rfl ?_
  refine G_getR fX11_79 rfl dX11_told_1 (o0 hT) (r0_13 hT) ?_
  refine G_iload_n (i := 1) dX11_told_4 rfl rfl ?_
  refine G_cVr (as := [.inl f]) qX11_264 (x_figureAt d τ h hT f (by omega) (by have := y.fg_.1; have := y.fg_.2.1; omega)) rfl rfl (Nat.le_of_ble_eq_true rfl) (o39 hT) dX11_told_5 (fun x' h' e' => ?_)
  obtain ⟨rfl, eh'⟩ := e'
  rw [eh']
  clear eh'
  by_cases hb : 0 ≤ f ∧ f < h 39 1
  · rw [if_pos hb]
    obtain ⟨b, Lb, b1, b2, b3, b4, b5, b6⟩ := y.fg_.2.2 (f).toNat (by have := y.fg_.1; omega)
    rw [b1]
    have bm := x.ma_ (f).toNat (by have := y.fg_.1; omega)
    obtain ⟨bc, be⟩ := stL_fig b5 b6
    refine G_astore_n (i := 3) (ls' := [some (.inr (some 0)), some (.inl f), some (.inl i), some (.inr (some b))]) dX11_told_8 rfl (by decide) rfl ?_
    refine G_aload_n (i := 3) dX11_told_9 rfl rfl ?_
    refine G_ifnonnullS (tgt := 15) dX11_told_10 (by decide) ?_
    refine G_iload_n (i := 2) dX11_told_15 rfl rfl ?_
    refine G_iconst dX11_told_16 ?_
    refine G_icmp_ne (tgt := 27) dX11_told_17 (by decide) (by omega) (by decide) (fun c_1 => ?_) (fun c_1 => ?_)
    · refine G_aload_n (i := 3) dX11_told_27 rfl rfl ?_
      refine G_iload_n (i := 2) dX11_told_28 rfl rfl ?_
      refine G_cVq (as := [.inl i]) qX11_185 (x_codeAt d τ h b Lb b3 i (by omega) (by omega)) rfl rfl (Nat.le_of_ble_eq_true rfl) b3.1 dX11_told_29 ?_
      refine G_iretZ rfl dX11_told_32 ?_
      exact ⟨by unfold f_told; (repeat (first | rw [if_pos (by omega)] | rw [if_neg (by omega)])); first | omega | (unfold x_cod; by_cases z : 0 ≤ i ∧ i < h b 1; (rw [if_pos z, if_pos (by omega)]; rw [be i.toNat (by omega)]; congr 1; omega); (rw [if_neg z, if_neg (by omega)])), rfl⟩
    · refine G_aload_n (i := 3) dX11_told_20 rfl rfl ?_
      refine G_getI (v := h b 1) fX11_174 rfl dX11_told_21 b3.1 rfl ?_
      refine G_goto (tgt := 32) dX11_told_24 (by decide) ?_
      refine G_iretZ rfl dX11_told_32 ?_
      exact ⟨by unfold f_told; (repeat (first | rw [if_pos (by omega)] | rw [if_neg (by omega)])); first | omega | (unfold x_cod; by_cases z : 0 ≤ i ∧ i < h b 1; (rw [if_pos z, if_pos (by omega)]; rw [be i.toNat (by omega)]; congr 1; omega); (rw [if_neg z, if_neg (by omega)])), rfl⟩
  · rw [if_neg hb]
    refine G_astore_n (i := 3) (ls' := [some (.inr (some 0)), some (.inl f), some (.inl i), some (.inr none)]) dX11_told_8 rfl (by decide) rfl ?_
    refine G_aload_n (i := 3) dX11_told_9 rfl rfl ?_
    refine G_ifnonnullN dX11_told_10 ?_
    refine G_iconst dX11_told_13 ?_
    refine G_iretZ rfl dX11_told_14 ?_
    exact ⟨by unfold f_told; (repeat (first | rw [if_pos (by omega)] | rw [if_neg (by omega)])), rfl⟩

theorem op_told {τ : TT} {h : HT} (s : SIM τ h) (f i : Int) (r_f : -2147483648 ≤ f ∧ f ≤ 2147483647) (r_i : -2147483648 ≤ i ∧ i ≤ 2147483647) : OPS mX11_told mX12_told 20 0 0 [.inl f, .inl i] τ h := by
  obtain ⟨hT, x, y⟩ := s
  exact OPS_p ⟨hT, x, y⟩ _ (fun d => x_toldQ (d + 19) τ h hT x y f i r_f r_i) (fun d => m_told (d + 18) τ h hT f i r_f r_i x)
theorem x_readQ (d : Nat) (τ : TT) (h : HT) (hT : TK τ) (x : MI h) (y : XR τ h) (t i : Int) (r_t : -2147483648 ≤ t ∧ t ≤ 2147483647) (r_i : -2147483648 ≤ i ∧ i ≤ 2147483647) : S_ mX11_read (d + 1) 0 0 [.inr (some 0), .inl t, .inl i] τ h (Zi τ fun v h' => v = f_read h t i ∧ h' = h) := by
  have n9 := x.n9
  have d1 := x.d1
  have n_ := x.n_
  have fn := y.fn_
  have da := y.da_
  have cn := y.cn_
  have r_r_ := x.r_
  have s_s_ := x.s_
  have dc := y.dc_
  have pc := y.pc_
  have pp := x.p_
  have fgc := y.fg_.1
  have f10 := x.f_
  have ra := y.ra_
  have a100 := x.a_
  have pic := y.pi_
  have t40 := x.t_
  have txx := y.tx_
  have e80 := x.e_
  refine S_go (k := 1) (ls := [some (.inr (some 0)), some (.inl t), some (.inl i), none]) (by decide) rfl (Nat.le_of_ble_eq_true rfl) rfl ?_
  refine G_aload_n (i := 0) dX11_read_0 rfl rfl ?_
  refine G_iload_n (i := 1) dX11_read_1 rfl rfl ?_
  refine G_cVr (as := [.inl t]) qX11_278 (x_tapeAt d τ h hT t (by omega)) rfl rfl (Nat.le_of_ble_eq_true rfl) (o0 hT) dX11_read_2 (fun x' h' e' => ?_)
  obtain ⟨rfl, eh'⟩ := e'
  rw [eh']
  clear eh'
  by_cases hb : 0 ≤ t ∧ t < 6
  · rw [if_pos hb]
    obtain ⟨b, b1, b2, b3⟩ := tape_ref hT (T := (t).toNat) (by omega)
    rw [b2]
    have bt := y.tp_ (t).toNat (by omega)
    rw [show 69 + 2 * (t).toNat = b from b1.symm, show 70 + 2 * (t).toNat = b + 1 by omega] at bt
    have bs := x.si_ (t).toNat (by omega)
    have bo := x.so_ (t).toNat (by omega)
    have bn := y.sn_ (t).toNat (by omega)
    refine G_astore_n (i := 3) (ls' := [some (.inr (some 0)), some (.inl t), some (.inl i), some (.inr (some b))]) dX11_read_5 rfl (by decide) rfl ?_
    refine G_aload_n (i := 3) dX11_read_6 rfl rfl ?_
    refine G_ifnullS dX11_read_7 ?_
    refine G_iload_n (i := 2) dX11_read_10 rfl rfl ?_
    refine G_if_lt (tgt := 22) dX11_read_11 (by decide) (by omega) (fun c_1 => ?_) (fun c_1 => ?_)
    · refine G_ldcw (n := (-1000000000)) nX11_336 dX11_read_22 ?_
      refine G_iretZ rfl dX11_read_25 ?_
      exact ⟨by unfold f_read; (repeat (first | rw [if_pos (by omega)] | rw [if_neg (by omega)])), rfl⟩
    · refine G_iload_n (i := 2) dX11_read_14 rfl rfl ?_
      refine G_aload_n (i := 3) dX11_read_15 rfl rfl ?_
      refine G_getI (v := h b 1) fX11_285 rfl dX11_read_16 b3.1 rfl ?_
      refine G_icmp_lt (tgt := 26) dX11_read_19 (by decide) (by omega) (by omega) (fun c_2 => ?_) (fun c_2 => ?_)
      · refine G_aload_n (i := 3) dX11_read_26 rfl rfl ?_
        refine G_getR fX11_286 rfl dX11_read_27 b3.1 b3.2.2 ?_
        refine G_iload_n (i := 2) dX11_read_30 rfl rfl ?_
        refine G_iald (v := h (b + 1) ((i).toNat)) dX11_read_31 b3.2.1 (by omega) rfl ?_
        refine G_iretZ rfl dX11_read_32 ?_
        exact ⟨by unfold f_read; (repeat (first | rw [if_pos (by omega)] | rw [if_neg (by omega)])); rw [bt.2.2 i.toNat (by omega)]; congr 1; omega, rfl⟩
      · refine G_ldcw (n := (-1000000000)) nX11_336 dX11_read_22 ?_
        refine G_iretZ rfl dX11_read_25 ?_
        exact ⟨by unfold f_read; (repeat (first | rw [if_pos (by omega)] | rw [if_neg (by omega)])), rfl⟩
  · rw [if_neg hb]
    refine G_astore_n (i := 3) (ls' := [some (.inr (some 0)), some (.inl t), some (.inl i), some (.inr none)]) dX11_read_5 rfl (by decide) rfl ?_
    refine G_aload_n (i := 3) dX11_read_6 rfl rfl ?_
    refine G_ifnullN (tgt := 22) dX11_read_7 (by decide) ?_
    refine G_ldcw (n := (-1000000000)) nX11_336 dX11_read_22 ?_
    refine G_iretZ rfl dX11_read_25 ?_
    exact ⟨by unfold f_read; (repeat (first | rw [if_pos (by omega)] | rw [if_neg (by omega)])), rfl⟩

theorem op_read {τ : TT} {h : HT} (s : SIM τ h) (t i : Int) (r_t : -2147483648 ≤ t ∧ t ≤ 2147483647) (r_i : -2147483648 ≤ i ∧ i ≤ 2147483647) : OPS mX11_read mX12_read 20 0 0 [.inl t, .inl i] τ h := by
  obtain ⟨hT, x, y⟩ := s
  exact OPS_p ⟨hT, x, y⟩ _ (fun d => x_readQ (d + 19) τ h hT x y t i r_t r_i) (fun d => m_read (d + 18) τ h hT t i r_t r_i x.so_ x.si_)
theorem x_countQ (d : Nat) (τ : TT) (h : HT) (hT : TK τ) (x : MI h) (y : XR τ h) (w : Int) (r_w : -2147483648 ≤ w ∧ w ≤ 2147483647) : S_ mX11_count d 0 0 [.inr (some 0), .inl w] τ h (Zi τ fun v h' => v = f_count h w ∧ h' = h) := by
  have n9 := x.n9
  have d1 := x.d1
  have n_ := x.n_
  have fn := y.fn_
  have da := y.da_
  have cn := y.cn_
  have r_r_ := x.r_
  have s_s_ := x.s_
  have dc := y.dc_
  have pc := y.pc_
  have pp := x.p_
  have fgc := y.fg_.1
  have f10 := x.f_
  have ra := y.ra_
  have a100 := x.a_
  have pic := y.pi_
  have t40 := x.t_
  have txx := y.tx_
  have e80 := x.e_
  refine S_go (k := 0) (ls := [some (.inr (some 0)), some (.inl w)]) (by decide) rfl (Nat.le_of_ble_eq_true rfl) rfl ?_
  refine G_iload_n (i := 1) dX11_count_0 rfl rfl ?_
  by_cases hsw : 0 ≤ w ∧ w ≤ 7
  · have hsx : w = 0 ∨ w = 1 ∨ w = 2 ∨ w = 3 ∨ w = 4 ∨ w = 5 ∨ w = 6 ∨ w = 7 := by omega
    rcases hsx with hsx | hsx | hsx | hsx | hsx | hsx | hsx | hsx
    · rw [hsx]
      refine G_tswIn (off := 47) (tgt := 48) dX11_count_1 (by decide) (by decide) rfl (by decide) ?_
      refine G_aload_n (i := 0) dX11_count_48 rfl rfl ?_
      refine G_getI (v := h 0 1) fX11_15 rfl dX11_count_49 (o0 hT) rfl ?_
      refine G_iretZ rfl dX11_count_52 ?_
      exact ⟨by unfold f_count; (repeat (first | rw [if_pos (by omega)] | rw [if_neg (by omega)])); try omega, rfl⟩
    · rw [hsx]
      refine G_tswIn (off := 52) (tgt := 53) dX11_count_1 (by decide) (by decide) rfl (by decide) ?_
      refine G_aload_n (i := 0) dX11_count_53 rfl rfl ?_
      refine G_getR fX11_36 rfl dX11_count_54 (o0 hT) (r0_5 hT) ?_
      refine G_getI (v := h 6 0) fX11_157 rfl dX11_count_57 (o6 hT) rfl ?_
      refine G_iretZ rfl dX11_count_60 ?_
      exact ⟨by unfold f_count; (repeat (first | rw [if_pos (by omega)] | rw [if_neg (by omega)])); try omega, rfl⟩
    · rw [hsx]
      refine G_tswIn (off := 60) (tgt := 61) dX11_count_1 (by decide) (by decide) rfl (by decide) ?_
      refine G_aload_n (i := 0) dX11_count_61 rfl rfl ?_
      refine G_getR fX11_49 rfl dX11_count_62 (o0 hT) (r0_7 hT) ?_
      refine G_getI (v := h 11 1) fX11_174 rfl dX11_count_65 (o11 hT) rfl ?_
      refine G_iretZ rfl dX11_count_68 ?_
      exact ⟨by unfold f_count; (repeat (first | rw [if_pos (by omega)] | rw [if_neg (by omega)])); try omega, rfl⟩
    · rw [hsx]
      refine G_tswIn (off := 68) (tgt := 69) dX11_count_1 (by decide) (by decide) rfl (by decide) ?_
      refine G_aload_n (i := 0) dX11_count_69 rfl rfl ?_
      refine G_getR fX11_79 rfl dX11_count_70 (o0 hT) (r0_13 hT) ?_
      refine G_getI (v := h 39 1) fX11_252 rfl dX11_count_73 (o39 hT) rfl ?_
      refine G_iretZ rfl dX11_count_76 ?_
      exact ⟨by unfold f_count; (repeat (first | rw [if_pos (by omega)] | rw [if_neg (by omega)])); try omega, rfl⟩
    · rw [hsx]
      refine G_tswIn (off := 76) (tgt := 77) dX11_count_1 (by decide) (by decide) rfl (by decide) ?_
      refine G_aload_n (i := 0) dX11_count_77 rfl rfl ?_
      refine G_getR fX11_79 rfl dX11_count_78 (o0 hT) (r0_13 hT) ?_
      refine G_getI (v := h 39 3) fX11_249 rfl dX11_count_81 (o39 hT) rfl ?_
      refine G_iretZ rfl dX11_count_84 ?_
      exact ⟨by unfold f_count; (repeat (first | rw [if_pos (by omega)] | rw [if_neg (by omega)])); try omega, rfl⟩
    · rw [hsx]
      refine G_tswIn (off := 84) (tgt := 85) dX11_count_1 (by decide) (by decide) rfl (by decide) ?_
      refine G_aload_n (i := 0) dX11_count_85 rfl rfl ?_
      refine G_getR fX11_63 rfl dX11_count_86 (o0 hT) (r0_9 hT) ?_
      refine G_getI (v := h 18 3) fX11_212 rfl dX11_count_89 (o18 hT) rfl ?_
      refine G_iretZ rfl dX11_count_92 ?_
      exact ⟨by unfold f_count; (repeat (first | rw [if_pos (by omega)] | rw [if_neg (by omega)])); try omega, rfl⟩
    · rw [hsx]
      refine G_tswIn (off := 92) (tgt := 93) dX11_count_1 (by decide) (by decide) rfl (by decide) ?_
      refine G_aload_n (i := 0) dX11_count_93 rfl rfl ?_
      refine G_getI (v := h 0 6) fX11_40 rfl dX11_count_94 (o0 hT) rfl ?_
      refine G_if_eq (tgt := 104) dX11_count_97 (by decide) (by omega) (fun c_1 => ?_) (fun c_1 => ?_)
      · refine G_iconst dX11_count_104 ?_
        refine G_iretZ rfl dX11_count_105 ?_
        exact ⟨by unfold f_count; (repeat (first | rw [if_pos (by omega)] | rw [if_neg (by omega)])); try omega, rfl⟩
      · refine G_iconst dX11_count_100 ?_
        refine G_goto (tgt := 105) dX11_count_101 (by decide) ?_
        refine G_iretZ rfl dX11_count_105 ?_
        exact ⟨by unfold f_count; (repeat (first | rw [if_pos (by omega)] | rw [if_neg (by omega)])); try omega, rfl⟩
    · rw [hsx]
      refine G_tswIn (off := 105) (tgt := 106) dX11_count_1 (by decide) (by decide) rfl (by decide) ?_
      refine G_aload_n (i := 0) dX11_count_106 rfl rfl ?_
      refine G_getR fX11_22 rfl dX11_count_107 (o0 hT) (r0_2 hT) ?_
      refine G_getI (v := h 2 1) fX11_313 rfl dX11_count_110 (o2 hT) rfl ?_
      refine G_iretZ rfl dX11_count_113 ?_
      exact ⟨by unfold f_count; (repeat (first | rw [if_pos (by omega)] | rw [if_neg (by omega)])); try omega, rfl⟩
  · refine G_tswOut (tgt := 114) dX11_count_1 (by omega) (by omega) (by decide) ?_
    refine G_bipush dX11_count_114 (by decide) ?_
    refine G_iretZ rfl dX11_count_116 ?_
    exact ⟨by unfold f_count; (repeat (first | rw [if_pos (by omega)] | rw [if_neg (by omega)])); try omega, rfl⟩

theorem op_count {τ : TT} {h : HT} (s : SIM τ h) (w : Int) (r_w : -2147483648 ≤ w ∧ w ≤ 2147483647) : OPS mX11_count mX12_count 20 0 0 [.inl w] τ h := by
  obtain ⟨hT, x, y⟩ := s
  exact OPS_p ⟨hT, x, y⟩ _ (fun d => x_countQ (d + 20) τ h hT x y w r_w) (fun d => m_count (d + 20) τ h hT w r_w x.d1)
theorem x_atQ (d : Nat) (τ : TT) (h : HT) (hT : TK τ) (x : MI h) (y : XR τ h) (p w : Int) (r_p : -2147483648 ≤ p ∧ p ≤ 2147483647) (r_w : -2147483648 ≤ w ∧ w ≤ 2147483647) : S_ mX11_at (d + 1) 0 0 [.inr (some 0), .inl p, .inl w] τ h (Zi τ fun v h' => v = f_at h p w ∧ h' = h) := by
  have n9 := x.n9
  have d1 := x.d1
  have n_ := x.n_
  have fn := y.fn_
  have da := y.da_
  have cn := y.cn_
  have r_r_ := x.r_
  have s_s_ := x.s_
  have dc := y.dc_
  have pc := y.pc_
  have pp := x.p_
  have fgc := y.fg_.1
  have f10 := x.f_
  have ra := y.ra_
  have a100 := x.a_
  have pic := y.pi_
  have t40 := x.t_
  have txx := y.tx_
  have e80 := x.e_
  refine S_go (k := 1) (ls := [some (.inr (some 0)), some (.inl p), some (.inl w), none]) (by decide) rfl (Nat.le_of_ble_eq_true rfl) rfl ?_
  refine G_aload_n (i := 0) dX11_at_0 rfl rfl ?_
  refine G_iload_n (i := 1) dX11_at_1 rfl rfl ?_
  refine G_cVq (as := [.inl p]) qX11_137 (x_isPlace d τ h hT p (by omega) (by omega)) rfl rfl (Nat.le_of_ble_eq_true rfl) (o0 hT) dX11_at_2 ?_
  refine G_ifb_ne (tgt := 11) dX11_at_5 (by decide) (fun c_1 => ?_) (fun c_1 => ?_)
  · refine G_aload_n (i := 0) dX11_at_11 rfl rfl ?_
    refine G_getR fX11_36 rfl dX11_at_12 (o0 hT) (r0_5 hT) ?_
    refine G_getR fX11_154 rfl dX11_at_15 (o6 hT) (r6_3 hT) ?_
    refine G_iload_n (i := 1) dX11_at_18 rfl rfl ?_
    refine G_iald (v := h 7 ((p).toNat)) dX11_at_19 (o7 hT) (by omega) rfl ?_
    have o_ := y.or_ p.toNat (by omega)
    have a_ := x.ha_ p.toNat (by omega)
    refine G_istore_n (i := 3) (ls' := [some (.inr (some 0)), some (.inl p), some (.inl w), some (.inl (h 7 ((p).toNat)))]) dX11_at_20 rfl (by decide) rfl ?_
    refine G_iload_n (i := 2) dX11_at_21 rfl rfl ?_
    by_cases hsw : 0 ≤ w ∧ w ≤ 3
    · have hsx : w = 0 ∨ w = 1 ∨ w = 2 ∨ w = 3 := by omega
      rcases hsx with hsx | hsx | hsx | hsx
      · rw [hsx]
        refine G_tswIn (off := 30) (tgt := 52) dX11_at_22 (by decide) (by decide) rfl (by decide) ?_
        refine G_aload_n (i := 0) dX11_at_52 rfl rfl ?_
        refine G_getR fX11_26 rfl dX11_at_53 (o0 hT) (r0_3 hT) ?_
        refine G_iload_n (i := 3) dX11_at_56 rfl rfl ?_
        refine G_iald (v := h 4 ((h 7 ((p).toNat)).toNat)) dX11_at_57 (o4 hT) (by omega) rfl ?_
        refine G_iretZ rfl dX11_at_58 ?_
        exact ⟨by unfold f_at; (repeat (first | rw [if_pos (by omega)] | rw [if_neg (by omega)])); rw [y.or_ p.toNat (by omega)]; exact (y.wh_ p.toNat (by omega)).symm, rfl⟩
      · rw [hsx]
        refine G_tswIn (off := 37) (tgt := 59) dX11_at_22 (by decide) (by decide) rfl (by decide) ?_
        refine G_aload_n (i := 0) dX11_at_59 rfl rfl ?_
        refine G_getR fX11_30 rfl dX11_at_60 (o0 hT) (r0_4 hT) ?_
        refine G_iload_n (i := 3) dX11_at_63 rfl rfl ?_
        refine G_iald (v := h 5 ((h 7 ((p).toNat)).toNat)) dX11_at_64 (o5 hT) (by omega) rfl ?_
        refine G_iretZ rfl dX11_at_65 ?_
        exact ⟨by unfold f_at; (repeat (first | rw [if_pos (by omega)] | rw [if_neg (by omega)])); rw [y.or_ p.toNat (by omega)]; exact y.co_ _ (by omega), rfl⟩
      · rw [hsx]
        refine G_tswIn (off := 44) (tgt := 66) dX11_at_22 (by decide) (by decide) rfl (by decide) ?_
        refine G_aload_n (i := 0) dX11_at_66 rfl rfl ?_
        refine G_getR fX11_36 rfl dX11_at_67 (o0 hT) (r0_5 hT) ?_
        refine G_getR fX11_151 rfl dX11_at_70 (o6 hT) (r6_4 hT) ?_
        refine G_iload_n (i := 3) dX11_at_73 rfl rfl ?_
        refine G_iald (v := h 8 ((h 7 ((p).toNat)).toNat)) dX11_at_74 (o8 hT) (by omega) rfl ?_
        refine G_iretZ rfl dX11_at_75 ?_
        exact ⟨by unfold f_at; (repeat (first | rw [if_pos (by omega)] | rw [if_neg (by omega)])); rw [y.or_ p.toNat (by omega)]; exact y.le_ _ (by omega), rfl⟩
      · rw [hsx]
        refine G_tswIn (off := 54) (tgt := 76) dX11_at_22 (by decide) (by decide) rfl (by decide) ?_
        refine G_iload_n (i := 3) dX11_at_76 rfl rfl ?_
        refine G_iretZ rfl dX11_at_77 ?_
        exact ⟨by unfold f_at; (repeat (first | rw [if_pos (by omega)] | rw [if_neg (by omega)])); exact y.or_ p.toNat (by omega), rfl⟩
    · refine G_tswOut (tgt := 78) dX11_at_22 (by omega) (by omega) (by decide) ?_
      refine G_bipush dX11_at_78 (by decide) ?_
      refine G_iretZ rfl dX11_at_80 ?_
      exact ⟨by unfold f_at; (repeat (first | rw [if_pos (by omega)] | rw [if_neg (by omega)])), rfl⟩
  · refine G_bipush dX11_at_8 (by decide) ?_
    refine G_iretZ rfl dX11_at_10 ?_
    exact ⟨by unfold f_at; (repeat (first | rw [if_pos (by omega)] | rw [if_neg (by omega)])), rfl⟩

theorem op_at {τ : TT} {h : HT} (s : SIM τ h) (p w : Int) (r_p : -2147483648 ≤ p ∧ p ≤ 2147483647) (r_w : -2147483648 ≤ w ∧ w ≤ 2147483647) : OPS mX11_at mX12_at 20 0 0 [.inl p, .inl w] τ h := by
  obtain ⟨hT, x, y⟩ := s
  exact OPS_p ⟨hT, x, y⟩ _ (fun d => x_atQ (d + 19) τ h hT x y p w r_p r_w) (fun d => m_at (d + 18) τ h hT p w r_p r_w x.n9 x.ha_)
