/-! operations: the cloth's questions, pictures, tapes -/
theorem x_tat_e {τ : TT} {h : HT} (x : MI h) (y : XR τ h) {r p : Int} (hr : 0 ≤ r ∧ r < h 81 15) (hp : 0 ≤ p ∧ p < h 81 1) : x_tat h r p = h 90 (f_top h r p).toNat := by
  have c1 := y.cl_ r.toNat p.toNat (by omega) (by omega)
  unfold x_tat
  rw [show (9 * r + p).toNat = 9 * r.toNat + p.toNat by omega]
  rw [show ((r.toNat : Nat) : Int) = r by omega, show ((p.toNat : Nat) : Int) = p by omega] at c1
  rw [c1.2.2]
  exact y.ce_ (Or.inr (by omega)) _ (by have := f_top_lt x y.ok_ (r := r) (p := p) hr hp; omega)
theorem x_lk_e {τ : TT} {h : HT} (x : MI h) (y : XR τ h) {r s : Int} (hr : 0 ≤ r ∧ r < h 81 15) (hs : 0 ≤ s ∧ s < h 81 15) : x_lk h r s (h 13 0).toNat ↔ f_lk h r s (h 81 1).toNat := by
  have cn := y.cn_
  rw [cn.1]
  constructor
  · intro q p hp
    rw [← x_tat_e x y hr (by omega), ← x_tat_e x y hs (by omega)]; exact q p hp
  · intro q p hp
    rw [x_tat_e x y hr (by omega), x_tat_e x y hs (by omega)]; exact q p hp
theorem x_bt_e {τ : TT} {h : HT} (x : MI h) (y : XR τ h) {b : Nat} (hb : 1 ≤ b) : x_bt h b (h 13 1).toNat ↔ f_bt h b (h 81 15).toNat := by
  have cn := y.cn_
  rw [cn.2]
  constructor
  · intro q r hr hbr
    exact (x_lk_e x y (by omega) (by omega)).mp (q r hr hbr)
  · intro q r hr hbr
    exact (x_lk_e x y (by omega) (by omega)).mpr (q r hr hbr)
theorem x_isb_u {τ : TT} {h : HT} (x : MI h) (y : XR τ h) {v w : Int} (a : x_isb h v) (b : f_isb h w) : w = v := by
  have cn := y.cn_
  obtain ⟨a1, a2, a3, a4⟩ := a
  obtain ⟨b1, b2, b3, b4⟩ := b
  rcases Int.lt_trichotomy v w with z | z | z
  · have := a3 (by omega)
    have e := (x_bt_e x y (b := v.toNat) (by omega)).mp this
    exact absurd e (b4 v.toNat (by omega) (by omega))
  · omega
  · have := b3 (by omega)
    have e := (x_bt_e x y (b := w.toNat) (by omega)).mpr this
    exact absurd e (a4 w.toNat (by omega) (by omega))
theorem x_beatQ (d : Nat) (τ : TT) (h : HT) (hT : TK τ) (x : MI h) (y : XR τ h) : S_ mX11_beat (d + 5) 0 0 [.inr (some 0)] τ h (Zi τ fun v h' => ((h 81 15 = 0 → v = -3) ∧ (h 81 15 ≠ 0 → x_isb h v)) ∧ h' = h) := by
  have n9 := x.n9
  have d1 := x.d1
  have n_ := x.n_
  have fn := y.fn_
  have da := y.da_
  have cn := y.cn_
  have r_r_ := x.r_
  have s_s_ := x.s_
  have dc := y.dc_
  have pc := y.pc_
  have pp := x.p_
  have fgc := y.fg_.1
  have f10 := x.f_
  have ra := y.ra_
  have a100 := x.a_
  have pic := y.pi_
  have t40 := x.t_
  have txx := y.tx_
  have e80 := x.e_
  refine S_go (k := 0) (ls := [some (.inr (some 0))]) (by decide) rfl (Nat.le_of_ble_eq_true rfl) rfl ?_
  refine G_aload_n (i := 0) dX11_beat_0 rfl rfl ?_
  refine G_getR fX11_56 rfl dX11_beat_1 (o0 hT) (r0_8 hT) ?_
  refine G_getI (v := h 13 1) fX11_188 rfl dX11_beat_4 (o13 hT) rfl ?_
  refine G_if_ne (tgt := 13) dX11_beat_7 (by decide) (by omega) (fun c_1 => ?_) (fun c_1 => ?_)
  · refine G_aload_n (i := 0) dX11_beat_13 rfl rfl ?_
    refine G_getR fX11_56 rfl dX11_beat_14 (o0 hT) (r0_8 hT) ?_
    refine G_cVi (as := []) qX11_205 (x_leastBeat d τ h hT (by omega) (by omega) (y.topok x) y.cc_ (by omega)) rfl rfl (Nat.le_of_ble_eq_true rfl) (o13 hT) dX11_beat_17 (fun v1 h' e' => ?_)
    obtain ⟨e1, eh'⟩ := e'
    rw [eh']
    clear eh'
    refine G_iretZ rfl dX11_beat_20 ?_
    exact ⟨⟨fun q => by omega, fun _ => e1⟩, rfl⟩
  · refine G_bipush dX11_beat_10 (by decide) ?_
    refine G_iretZ rfl dX11_beat_12 ?_
    exact ⟨⟨fun _ => rfl, fun q => by omega⟩, rfl⟩

theorem op_beat {τ : TT} {h : HT} (s : SIM τ h) : OPS mX11_beat mX12_beat 20 0 0 [] τ h := by
  obtain ⟨hT, x, y⟩ := s
  refine OPS_u ⟨hT, x, y⟩ (fun v => (h 81 15 = 0 → v = -3) ∧ (h 81 15 ≠ 0 → x_isb h v)) (fun v => (h 81 15 = 0 → v = -3) ∧ (h 81 15 ≠ 0 → f_isb h v)) (fun d => x_beatQ (d + 15) τ h hT x y) (fun d => S_mono ?_ (m_beat (d + 17) τ h hT x.n9 x.r_ x.cr_ x.cm_ x.cc_)) ?_
  · rintro r τ2 h2 ⟨rfl, w, rfl, q1, q2, rfl⟩
    exact ⟨rfl, w, rfl, ⟨q1, q2⟩, rfl⟩
  · rintro v w ⟨a1, a2⟩ ⟨b1, b2⟩
    by_cases z : h 81 15 = 0
    · rw [a1 z, b1 z]
    · exact x_isb_u x y (a2 z) (b2 z)
theorem x_wr_e {τ : TT} {h : HT} (x : MI h) (y : XR τ h) : ∀ k : Nat, k ≤ 40 → x_wr h k = f_wv h (h 90) k
  | 0, _ => rfl
  | k + 1, hk => by
    have ih := x_wr_e x y k (by omega)
    have cn := y.cn_
    obtain ⟨p1, p2, p3⟩ := y.pi_.2 k (by omega)
    have t7 := x.t7_ k (by omega)
    have t8 := x.t8_ k (by omega)
    show x_wr h k + (if x_gd h k ∧ x_tat h (h 19 k) (h 20 k) = h 21 k then 0 else 1) = _
    have e : (x_gd h k ∧ x_tat h (h 19 k) (h 20 k) = h 21 k) ↔ ¬ f_bad h (h 90) k := by
      unfold x_gd x_has f_bad
      rw [p1, p2, p3, cn.1, cn.2]
      constructor
      · rintro ⟨q1, q2⟩ (z | z | z)
        · omega
        · omega
        · rw [x_tat_e x y (by omega) (by omega)] at q2; exact z q2
      · intro q
        have z1 : h 97 k < h 81 15 := by
          by_cases z : h 81 15 ≤ h 97 k
          · exact absurd (Or.inl z) q
          · omega
        have z2 : h 98 k < h 81 1 := by
          by_cases z : h 81 1 ≤ h 98 k
          · exact absurd (Or.inr (Or.inl z)) q
          · omega
        refine ⟨⟨by omega, by omega, by omega, by omega⟩, ?_⟩
        rw [x_tat_e x y (by omega) (by omega)]
        exact Classical.byContradiction fun z => q (Or.inr (Or.inr z))
    by_cases z : f_bad h (h 90) k
    · rw [if_neg (fun q => absurd z (e.mp q)), f_wv_1 z, ih]
    · rw [if_pos (e.mpr z), f_wv_0 z, ih]
theorem XR.h9 {τ : TT} {h : HT} (x : MI h) (y : XR τ h) : ∀ k : Nat, k < 40 → (0 ≤ h 19 k ∧ h 19 k ≤ 99) ∧ (0 ≤ h 20 k ∧ h 20 k ≤ 8) ∧ (0 ≤ h 21 k ∧ h 21 k ≤ 7) := fun k hk => by
  obtain ⟨p1, p2, p3⟩ := y.pi_.2 k hk
  rw [p1, p2, p3]
  exact ⟨x.t7_ k hk, x.t8_ k hk, x.t9_ k hk⟩
theorem x_wrongQ (d : Nat) (τ : TT) (h : HT) (hT : TK τ) (x : MI h) (y : XR τ h) : S_ mX11_wrong (d + 3) 0 0 [.inr (some 0)] τ h (Zi τ fun v h' => v = f_wv h (h 90) (h 81 20).toNat ∧ h' = h) := by
  have n9 := x.n9
  have d1 := x.d1
  have n_ := x.n_
  have fn := y.fn_
  have da := y.da_
  have cn := y.cn_
  have r_r_ := x.r_
  have s_s_ := x.s_
  have dc := y.dc_
  have pc := y.pc_
  have pp := x.p_
  have fgc := y.fg_.1
  have f10 := x.f_
  have ra := y.ra_
  have a100 := x.a_
  have pic := y.pi_
  have t40 := x.t_
  have txx := y.tx_
  have e80 := x.e_
  refine S_go (k := 0) (ls := [some (.inr (some 0))]) (by decide) rfl (Nat.le_of_ble_eq_true rfl) rfl ?_
  refine G_aload_n (i := 0) dX11_wrong_0 rfl rfl ?_
  refine G_getR fX11_63 rfl dX11_wrong_1 (o0 hT) (r0_9 hT) ?_
  refine G_aload_n (i := 0) dX11_wrong_4 rfl rfl ?_
  refine G_getR fX11_56 rfl dX11_wrong_5 (o0 hT) (r0_8 hT) ?_
  refine G_cVq (as := [.inr (some 13)]) qX11_213 (x_wrongOn d τ h hT (by omega) (by omega) (y.topok x) (by omega) (y.h9 x) y.cc_) rfl rfl (Nat.le_of_ble_eq_true rfl) (o18 hT) dX11_wrong_8 ?_
  refine G_iretZ rfl dX11_wrong_11 ?_
  exact ⟨by rw [pic.1]; exact x_wr_e x y _ (by omega), rfl⟩

theorem op_wrong {τ : TT} {h : HT} (s : SIM τ h) : OPS mX11_wrong mX12_wrong 20 0 0 [] τ h := by
  obtain ⟨hT, x, y⟩ := s
  exact OPS_p ⟨hT, x, y⟩ _ (fun d => x_wrongQ (d + 17) τ h hT x y) (fun d => m_wrong (d + 17) τ h hT x.cc_ x.n9 x.r_ x.t_ x.cr_ x.cm_ x.t7_ x.t8_ x.t9_)
def x_picture (h : HT) (r p c : Int) : Int × HT := if ¬ ((0 ≤ r ∧ r ≤ 99) ∧ (0 ≤ p ∧ p ≤ 8)) then (-1, h) else if ¬ (0 ≤ c ∧ c ≤ 7) then (-2, h) else if ¬ h 18 3 < 40 then (-4, h) else (h 18 3 + 1, hs_ (hs_ (hs_ (hs_ h 19 (h 18 3).toNat r) 20 (h 18 3).toNat p) 21 (h 18 3).toNat c) 18 3 (h 18 3 + 1))
def x_pictureless (h : HT) : Int × HT := (h 18 3, hs_ h 18 3 0)
theorem x_pictureM (d : Nat) (τ : TT) (h : HT) (hT : TK τ) (x : MI h) (y : XR τ h) (r p c : Int) (r_r : -2147483648 ≤ r ∧ r ≤ 2147483647) (r_p : -2147483648 ≤ p ∧ p ≤ 2147483647) (r_c : -2147483648 ≤ c ∧ c ≤ 2147483647) : S_ mX11_picture (d + 1) 0 0 [.inr (some 0), .inl r, .inl p, .inl c] τ h (Zi τ fun v h' => v = (x_picture h r p c).1 ∧ h' = (x_picture h r p c).2) := by
  have n9 := x.n9
  have d1 := x.d1
  have n_ := x.n_
  have fn := y.fn_
  have da := y.da_
  have cn := y.cn_
  have r_r_ := x.r_
  have s_s_ := x.s_
  have dc := y.dc_
  have pc := y.pc_
  have pp := x.p_
  have fgc := y.fg_.1
  have f10 := x.f_
  have ra := y.ra_
  have a100 := x.a_
  have pic := y.pi_
  have t40 := x.t_
  have txx := y.tx_
  have e80 := x.e_
  refine S_go (k := 0) (ls := [some (.inr (some 0)), some (.inl r), some (.inl p), some (.inl c)]) (by decide) rfl (Nat.le_of_ble_eq_true rfl) rfl ?_
  refine G_iload_n (i := 1) dX11_picture_0 rfl rfl ?_
  refine G_if_lt (tgt := 20) dX11_picture_1 (by decide) (by omega) (fun c_1 => ?_) (fun c_1 => ?_)
  · refine G_iconst dX11_picture_20 ?_
    refine G_iretZ rfl dX11_picture_21 ?_
    unfold x_picture; (repeat (first | rw [if_pos (by omega)] | rw [if_neg (by omega)])); exact ⟨rfl, rfl⟩
  · refine G_iload_n (i := 1) dX11_picture_4 rfl rfl ?_
    refine G_bipush dX11_picture_5 (by decide) ?_
    refine G_icmp_ge (tgt := 20) dX11_picture_7 (by decide) (by omega) (by decide) (fun c_2 => ?_) (fun c_2 => ?_)
    · refine G_iconst dX11_picture_20 ?_
      refine G_iretZ rfl dX11_picture_21 ?_
      unfold x_picture; (repeat (first | rw [if_pos (by omega)] | rw [if_neg (by omega)])); exact ⟨rfl, rfl⟩
    · refine G_iload_n (i := 2) dX11_picture_10 rfl rfl ?_
      refine G_if_lt (tgt := 20) dX11_picture_11 (by decide) (by omega) (fun c_3 => ?_) (fun c_3 => ?_)
      · refine G_iconst dX11_picture_20 ?_
        refine G_iretZ rfl dX11_picture_21 ?_
        unfold x_picture; (repeat (first | rw [if_pos (by omega)] | rw [if_neg (by omega)])); exact ⟨rfl, rfl⟩
      · refine G_iload_n (i := 2) dX11_picture_14 rfl rfl ?_
        refine G_bipush dX11_picture_15 (by decide) ?_
        refine G_icmp_lt (tgt := 22) dX11_picture_17 (by decide) (by omega) (by decide) (fun c_4 => ?_) (fun c_4 => ?_)
        · refine G_iload_n (i := 3) dX11_picture_22 rfl rfl ?_
          refine G_cSq (as := [.inl c]) qX11_147 (x_isColour d τ h c (by omega)) rfl rfl (Nat.le_of_ble_eq_true rfl) dX11_picture_23 ?_
          refine G_ifb_ne (tgt := 32) dX11_picture_26 (by decide) (fun c_5 => ?_) (fun c_5 => ?_)
          · refine G_aload_n (i := 0) dX11_picture_32 rfl rfl ?_
            refine G_getR fX11_63 rfl dX11_picture_33 (o0 hT) (r0_9 hT) ?_
            refine G_iload_n (i := 1) dX11_picture_36 rfl rfl ?_
            refine G_iload_n (i := 2) dX11_picture_37 rfl rfl ?_
            refine G_iload_n (i := 3) dX11_picture_38 rfl rfl ?_
            refine G_cVi (as := [.inl r, .inl p, .inl c]) qX11_208 (x_tellM d τ h hT r p c (by omega)) rfl rfl (Nat.le_of_ble_eq_true rfl) (o18 hT) dX11_picture_39 (fun v1 h' e' => ?_)
            obtain ⟨rfl, rfl⟩ := e'
            by_cases ht : h 18 3 < 40
            · rw [show x_tell h r p c = (1, hs_ (hs_ (hs_ (hs_ h 19 (h 18 3).toNat r) 20 (h 18 3).toNat p) 21 (h 18 3).toNat c) 18 3 (h 18 3 + 1)) from if_pos ht]; dsimp only
              refine G_if_eq (tgt := 55) dX11_picture_42 (by decide) (by decide) (fun q => absurd q (by decide)) (fun _ => ?_)
              refine G_aload_n (i := 0) dX11_picture_45 rfl rfl ?_
              refine G_getR fX11_63 rfl dX11_picture_46 (o0 hT) (r0_9 hT) ?_
              refine G_getI (v := h 18 3 + 1) fX11_212 rfl dX11_picture_49 (o18 hT) (hs_eq) ?_
              refine G_goto (tgt := 57) dX11_picture_52 (by decide) ?_
              refine G_iretZ rfl dX11_picture_57 ?_
              unfold x_picture; (repeat (first | rw [if_pos (by omega)] | rw [if_neg (by omega)])); exact ⟨rfl, rfl⟩
            · rw [show x_tell h r p c = (0, h) from if_neg ht]; dsimp only
              refine G_if_eq (tgt := 55) dX11_picture_42 (by decide) (by decide) (fun _ => ?_) (fun q => absurd q (by decide))
              refine G_bipush dX11_picture_55 (by decide) ?_
              refine G_iretZ rfl dX11_picture_57 ?_
              unfold x_picture; (repeat (first | rw [if_pos (by omega)] | rw [if_neg (by omega)])); exact ⟨rfl, rfl⟩
          · refine G_bipush dX11_picture_29 (by decide) ?_
            refine G_iretZ rfl dX11_picture_31 ?_
            unfold x_picture; (repeat (first | rw [if_pos (by omega)] | rw [if_neg (by omega)])); exact ⟨rfl, rfl⟩
        · refine G_iconst dX11_picture_20 ?_
          refine G_iretZ rfl dX11_picture_21 ?_
          unfold x_picture; (repeat (first | rw [if_pos (by omega)] | rw [if_neg (by omega)])); exact ⟨rfl, rfl⟩

theorem SIM_picture {τ : TT} {h : HT} (s : SIM τ h) {r p c : Int} (hr : 0 ≤ r ∧ r ≤ 99) (hp : 0 ≤ p ∧ p ≤ 8) (hc : 0 ≤ c ∧ c ≤ 7) (hf : h 81 20 < 40) : SIM τ (hs_ (hs_ (hs_ (hs_ (hs_ (hs_ (hs_ (hs_ h 19 (h 18 3).toNat r) 20 (h 18 3).toNat p) 21 (h 18 3).toNat c) 18 3 (h 18 3 + 1)) 97 (h 81 20).toNat r) 98 (h 81 20).toNat p) 99 (h 81 20).toNat c) 81 20 (h 81 20 + 1)) := by
  obtain ⟨hT, x, y⟩ := s
  generalize hH : (hs_ (hs_ (hs_ (hs_ (hs_ (hs_ (hs_ (hs_ h 19 (h 18 3).toNat r) 20 (h 18 3).toNat p) 21 (h 18 3).toNat c) 18 3 (h 18 3 + 1)) 97 (h 81 20).toNat r) 98 (h 81 20).toNat p) 99 (h 81 20).toNat c) 81 20 (h 81 20 + 1)) = H
  have o81_0 : H 81 0 = h 81 0 := by rw [← hH]; simp only [hs_, hf_]; (repeat (first | rfl | rw [if_neg (by omega)]))
  have o81_1 : H 81 1 = h 81 1 := by rw [← hH]; simp only [hs_, hf_]; (repeat (first | rfl | rw [if_neg (by omega)]))
  have o81_11 : H 81 11 = h 81 11 := by rw [← hH]; simp only [hs_, hf_]; (repeat (first | rfl | rw [if_neg (by omega)]))
  have o81_14 : H 81 14 = h 81 14 := by rw [← hH]; simp only [hs_, hf_]; (repeat (first | rfl | rw [if_neg (by omega)]))
  have o81_15 : H 81 15 = h 81 15 := by rw [← hH]; simp only [hs_, hf_]; (repeat (first | rfl | rw [if_neg (by omega)]))
  have o81_26 : H 81 26 = h 81 26 := by rw [← hH]; simp only [hs_, hf_]; (repeat (first | rfl | rw [if_neg (by omega)]))
  have o81_27 : H 81 27 = h 81 27 := by rw [← hH]; simp only [hs_, hf_]; (repeat (first | rfl | rw [if_neg (by omega)]))
  have o81_55 : H 81 55 = h 81 55 := by rw [← hH]; simp only [hs_, hf_]; (repeat (first | rfl | rw [if_neg (by omega)]))
  have q0_1 : H 0 1 = h 0 1 := by rw [← hH]; simp only [hs_, hf_]; (repeat (first | rfl | rw [if_neg (by omega)]))
  have q0_6 : H 0 6 = h 0 6 := by rw [← hH]; simp only [hs_, hf_]; (repeat (first | rfl | rw [if_neg (by omega)]))
  have q2_1 : H 2 1 = h 2 1 := by rw [← hH]; simp only [hs_, hf_]; (repeat (first | rfl | rw [if_neg (by omega)]))
  have q6_0 : H 6 0 = h 6 0 := by rw [← hH]; simp only [hs_, hf_]; (repeat (first | rfl | rw [if_neg (by omega)]))
  have q6_1 : H 6 1 = h 6 1 := by rw [← hH]; simp only [hs_, hf_]; (repeat (first | rfl | rw [if_neg (by omega)]))
  have q6_2 : H 6 2 = h 6 2 := by rw [← hH]; simp only [hs_, hf_]; (repeat (first | rfl | rw [if_neg (by omega)]))
  have q11_1 : H 11 1 = h 11 1 := by rw [← hH]; simp only [hs_, hf_]; (repeat (first | rfl | rw [if_neg (by omega)]))
  have q13_0 : H 13 0 = h 13 0 := by rw [← hH]; simp only [hs_, hf_]; (repeat (first | rfl | rw [if_neg (by omega)]))
  have q13_1 : H 13 1 = h 13 1 := by rw [← hH]; simp only [hs_, hf_]; (repeat (first | rfl | rw [if_neg (by omega)]))
  have q39_1 : H 39 1 = h 39 1 := by rw [← hH]; simp only [hs_, hf_]; (repeat (first | rfl | rw [if_neg (by omega)]))
  have q39_3 : H 39 3 = h 39 3 := by rw [← hH]; simp only [hs_, hf_]; (repeat (first | rfl | rw [if_neg (by omega)]))
  have o82 : ∀ k, H 82 k = h 82 k := fun k => by rw [← hH]; simp only [hs_, hf_]; (repeat (first | rfl | rw [if_neg (by omega)]))
  have o83 : ∀ k, H 83 k = h 83 k := fun k => by rw [← hH]; simp only [hs_, hf_]; (repeat (first | rfl | rw [if_neg (by omega)]))
  have o84 : ∀ k, H 84 k = h 84 k := fun k => by rw [← hH]; simp only [hs_, hf_]; (repeat (first | rfl | rw [if_neg (by omega)]))
  have o85 : ∀ k, H 85 k = h 85 k := fun k => by rw [← hH]; simp only [hs_, hf_]; (repeat (first | rfl | rw [if_neg (by omega)]))
  have o86 : ∀ k, H 86 k = h 86 k := fun k => by rw [← hH]; simp only [hs_, hf_]; (repeat (first | rfl | rw [if_neg (by omega)]))
  have o87 : ∀ k, H 87 k = h 87 k := fun k => by rw [← hH]; simp only [hs_, hf_]; (repeat (first | rfl | rw [if_neg (by omega)]))
  have o88 : ∀ k, H 88 k = h 88 k := fun k => by rw [← hH]; simp only [hs_, hf_]; (repeat (first | rfl | rw [if_neg (by omega)]))
  have o89 : ∀ k, H 89 k = h 89 k := fun k => by rw [← hH]; simp only [hs_, hf_]; (repeat (first | rfl | rw [if_neg (by omega)]))
  have o90 : ∀ k, H 90 k = h 90 k := fun k => by rw [← hH]; simp only [hs_, hf_]; (repeat (first | rfl | rw [if_neg (by omega)]))
  have o93 : ∀ k, H 93 k = h 93 k := fun k => by rw [← hH]; simp only [hs_, hf_]; (repeat (first | rfl | rw [if_neg (by omega)]))
  have o94 : ∀ k, H 94 k = h 94 k := fun k => by rw [← hH]; simp only [hs_, hf_]; (repeat (first | rfl | rw [if_neg (by omega)]))
  have o95 : ∀ k, H 95 k = h 95 k := fun k => by rw [← hH]; simp only [hs_, hf_]; (repeat (first | rfl | rw [if_neg (by omega)]))
  have o96 : ∀ k, H 96 k = h 96 k := fun k => by rw [← hH]; simp only [hs_, hf_]; (repeat (first | rfl | rw [if_neg (by omega)]))
  have o102 : ∀ k, H 102 k = h 102 k := fun k => by rw [← hH]; simp only [hs_, hf_]; (repeat (first | rfl | rw [if_neg (by omega)]))
  have o103 : ∀ k, H 103 k = h 103 k := fun k => by rw [← hH]; simp only [hs_, hf_]; (repeat (first | rfl | rw [if_neg (by omega)]))
  have o104 : ∀ k, H 104 k = h 104 k := fun k => by rw [← hH]; simp only [hs_, hf_]; (repeat (first | rfl | rw [if_neg (by omega)]))
  have o122 : ∀ k, H 122 k = h 122 k := fun k => by rw [← hH]; simp only [hs_, hf_]; (repeat (first | rfl | rw [if_neg (by omega)]))
  have o123 : ∀ k, H 123 k = h 123 k := fun k => by rw [← hH]; simp only [hs_, hf_]; (repeat (first | rfl | rw [if_neg (by omega)]))
  have o124 : ∀ k, H 124 k = h 124 k := fun k => by rw [← hH]; simp only [hs_, hf_]; (repeat (first | rfl | rw [if_neg (by omega)]))
  have o3 : ∀ k, H 3 k = h 3 k := fun k => by rw [← hH]; simp only [hs_, hf_]; (repeat (first | rfl | rw [if_neg (by omega)]))
  have o4 : ∀ k, H 4 k = h 4 k := fun k => by rw [← hH]; simp only [hs_, hf_]; (repeat (first | rfl | rw [if_neg (by omega)]))
  have o5 : ∀ k, H 5 k = h 5 k := fun k => by rw [← hH]; simp only [hs_, hf_]; (repeat (first | rfl | rw [if_neg (by omega)]))
  have o7 : ∀ k, H 7 k = h 7 k := fun k => by rw [← hH]; simp only [hs_, hf_]; (repeat (first | rfl | rw [if_neg (by omega)]))
  have o8 : ∀ k, H 8 k = h 8 k := fun k => by rw [← hH]; simp only [hs_, hf_]; (repeat (first | rfl | rw [if_neg (by omega)]))
  have o9 : ∀ k, H 9 k = h 9 k := fun k => by rw [← hH]; simp only [hs_, hf_]; (repeat (first | rfl | rw [if_neg (by omega)]))
  have o12 : ∀ k, H 12 k = h 12 k := fun k => by rw [← hH]; simp only [hs_, hf_]; (repeat (first | rfl | rw [if_neg (by omega)]))
  have o14 : ∀ k, H 14 k = h 14 k := fun k => by rw [← hH]; simp only [hs_, hf_]; (repeat (first | rfl | rw [if_neg (by omega)]))
  have o15 : ∀ k, H 15 k = h 15 k := fun k => by rw [← hH]; simp only [hs_, hf_]; (repeat (first | rfl | rw [if_neg (by omega)]))
  have o16 : ∀ k, H 16 k = h 16 k := fun k => by rw [← hH]; simp only [hs_, hf_]; (repeat (first | rfl | rw [if_neg (by omega)]))
  have o17 : ∀ k, H 17 k = h 17 k := fun k => by rw [← hH]; simp only [hs_, hf_]; (repeat (first | rfl | rw [if_neg (by omega)]))
  have o41 : ∀ k, H 41 k = h 41 k := fun k => by rw [← hH]; simp only [hs_, hf_]; (repeat (first | rfl | rw [if_neg (by omega)]))
  have o121 : ∀ k, H 121 k = h 121 k := fun k => by rw [← hH]; simp only [hs_, hf_]; (repeat (first | rfl | rw [if_neg (by omega)]))
  have o100 : ∀ k, H 100 k = h 100 k := fun k => by rw [← hH]; simp only [hs_, hf_]; (repeat (first | rfl | rw [if_neg (by omega)]))
  have hbig : ∀ a k : Nat, 126 ≤ a → H a k = h a k := fun a k ha => by rw [← hH]; simp only [hs_, hf_]; (repeat (first | rfl | rw [if_neg (by omega)]))
  have hst : ∀ a k : Nat, 24 ≤ a → a ≤ 27 → H a k = h a k := fun a k ha hb => by rw [← hH]; simp only [hs_, hf_]; (repeat (first | rfl | rw [if_neg (by omega)]))
  have htp : ∀ a k : Nat, 69 ≤ a → a ≤ 80 → H a k = h a k := fun a k ha hb => by rw [← hH]; simp only [hs_, hf_]; (repeat (first | rfl | rw [if_neg (by omega)]))
  refine ⟨hT, ⟨?_, ?_, ?_, ?_, ?_, ?_, ?_, ?_, ?_, ?_, ?_, ?_, ?_, ?_, ?_, ?_, ?_, ?_, ?_, ?_, ?_, ?_, ?_, ?_, ?_, ?_, ?_, ?_, ?_, ?_, ?_, ?_⟩, ⟨?_, ?_, ?_, ?_, ?_, ?_, ?_, ?_, ?_, ?_, ?_, ?_, ?_, ?_, ?_, ?_, ?_, ?_, ?_, ?_, ?_, ?_, ?_, ?_, ?_, ?_, ?_, ?_, ?_⟩⟩
  · simp only [o81_0]; exact x.p_
  · simp only [o81_1]; exact x.n_
  · simp only [o81_1, o81_11]; exact x.d_
  · simp only [o81_1, o81_14]; exact x.s_
  · simp only [o81_1, o81_15]; exact x.r_
  · rw [← hH, hs_eq]; have := x.t_; omega
  · simp only [o81_26]; exact x.f_
  · simp only [o81_27]; exact x.e_
  · simp only [o81_55]; exact x.a_
  · simp only [o82]; exact x.ki_
  · simp only [o83]; exact x.re_
  · simp only [o84]; exact x.pa_
  · simp only [o85]; exact x.wh_
  · simp only [o81_1, o86]; exact x.ha_
  · simp only [o81_1, o86]; exact x.hi_
  · simp only [o87]; exact x.co_
  · simp only [o88]; exact x.le_
  · simp only [o89]; exact x.be_
  · simp only [o90]; exact x.cc_
  · simp only [o81_1, o81_14, o93]; exact x.st_
  · simp only [o94]; exact x.mk_
  · simp only [o95]; exact x.cr_
  · simp only [o96]; exact x.cm_
  · intro k hk; rw [← hH]; have := x.t7_ k hk; simp only [hs_]; by_cases z : k = (h 81 20).toNat; (subst z; simp; omega); (simp [z]; omega)
  · intro k hk; rw [← hH]; have := x.t8_ k hk; simp only [hs_]; by_cases z : k = (h 81 20).toNat; (subst z; simp; omega); (simp [z]; omega)
  · intro k hk; rw [← hH]; have := x.t9_ k hk; simp only [hs_]; by_cases z : k = (h 81 20).toNat; (subst z; simp; omega); (simp [z]; omega)
  · simp only [o81_26, o102]; exact x.ma_
  · simp only [o81_26, o102, o103]; exact x.to_
  · simp only [o104]; exact x.tx_
  · simp only [o122]; exact x.so_
  · simp only [o123]; exact x.si_
  · simp only [o124]; exact x.it_
  · simp only [o81_0, q0_1]; exact y.pc_
  · intro k hk; rw [o81_0] at hk; obtain ⟨o, p1, p2, p3, p4, p5, p6, p7⟩ := y.pe_ k hk; exact ⟨o, p1, p2, p3, by rw [hbig o 0 p2]; exact p4, by rw [hbig o 1 p2, o82]; exact p5, by rw [hbig o 2 p2, o83]; exact p6, by rw [hbig o 3 p2, o84]; exact p7⟩
  · simp only [o81_55, q2_1]; exact y.ra_
  · simp only [o3, o121]; exact y.tr_
  · simp only [o81_1, o85, o86, o4]; exact y.wh_
  · simp only [o4]; exact y.wr_
  · simp only [o87, o5]; exact y.co_
  · simp only [o81_1, o81_14, o81_15, q6_0, q6_1, q6_2]; exact y.fn_
  · simp only [o81_1, o86, o7]; exact y.or_
  · simp only [o81_1, o88, o8]; exact y.le_
  · simp only [o81_1, o94, o9]; exact y.mk_
  · simp only [o81_1, o81_11, q0_6]; exact y.da_
  · simp only [o81_1, o81_14, q11_1]; exact y.dc_
  · simp only [o81_1, o81_14, o93, o12]; exact y.dd_
  · simp only [o81_1, o81_15, q13_0, q13_1]; exact y.cn_
  · intro r p hr hp; rw [o81_15] at hr; rw [o81_1] at hp; rw [o14, o15, o16, o95, o96, f_top_k o81_1 o95 o96]; exact y.cl_ r p hr hp
  · simp only [o14, o15]; exact y.cr_
  · simp only [o17]; exact y.cc_
  · simp only [o81_1, o81_11, o81_15, o90, o17]; exact y.ce_
  · rw [← hH]; have e0 := y.pi_.1; refine ⟨by simp [hs_]; exact e0, fun k hk => ?_⟩; obtain ⟨e1, e2, e3⟩ := y.pi_.2 k hk; simp only [hs_, e0]; by_cases z : k = (h 81 20).toNat; (subst z; simp); (simp [z]; exact ⟨e1, e2, e3⟩)
  · intro hd; rw [o81_11] at hd; rw [o81_1, show t_0 H = t_0 h from by unfold t_0; rw [show H 89 = h 89 from funext o89]]; exact (y.sf_ hd).fr (fun b j b1 b2 => hst b j (by omega) (by omega))
  · rw [o81_26]; exact (y.fg_.fr q39_1 hbig).cg (fun f hf => figL_c (o102 f) (fun k hk => o103 _))
  · simp only [o81_27, q39_3, o104, o41]; exact y.tx_
  · intro t ht; have := y.tp_ t ht; rw [htp (69 + 2 * t) 0 (by omega) (by omega), htp (69 + 2 * t) 1 (by omega) (by omega), o122, o123]; refine ⟨this.1, this.2.1, fun i hi => ?_⟩; rw [htp (70 + 2 * t) i (by omega) (by omega), o124]; exact this.2.2 i hi
  · simp only [o81_1, o81_11, o86]; exact y.nd_
  · simp only [o122, o123]; exact y.sn_
  · intro r p hr hp; rw [o81_15] at hr; rw [o81_1] at hp ⊢; rw [o95]; exact y.ok_ r p hr hp
  · simp only [o100]; exact y.gs_
  · rw [o81_0, o81_26]; exact y.sz_
theorem op_picture {τ : TT} {h : HT} (s : SIM τ h) (r p c : Int) (r_r : -2147483648 ≤ r ∧ r ≤ 2147483647) (r_p : -2147483648 ≤ p ∧ p ≤ 2147483647) (r_c : -2147483648 ≤ c ∧ c ≤ 2147483647) : OPS mX11_picture mX12_picture 20 0 0 [.inl r, .inl p, .inl c] τ h := by
  have s0 := s
  obtain ⟨hT, x, y⟩ := s
  have n9 := x.n9
  have d1 := x.d1
  have n_ := x.n_
  have fn := y.fn_
  have da := y.da_
  have pi0 := y.pi_.1
  have t40 := x.t_
  refine OPS_f x (x_picture h r p c) (fun g => f_picture g r p c) (fun d => x_pictureM (d + 19) τ h hT x y r p c r_r r_p r_c) (fun a i z1 z2 => by unfold x_picture; (repeat (first | rfl | (apply (apply_ite (fun z : Int × HT => z.2 a i) _ _ _).trans; split))); all_goals (simp only [hs_, hf_]; (repeat (first | rfl | rw [if_neg (by omega)])))) (fun d x1 => m_picture (d + 19) τ _ hT r p c r_r r_p r_c x1.t_) ?_
  show (f_picture (x_picture h r p c).2 r p c).1 = (x_picture h r p c).1 ∧ SIM τ (f_picture (x_picture h r p c).2 r p c).2
  unfold x_picture
  by_cases g1 : ¬ ((0 ≤ r ∧ r ≤ 99) ∧ (0 ≤ p ∧ p ≤ 8))
  · rw [if_pos g1]; show (f_picture h r p c).1 = _ ∧ SIM τ (f_picture h r p c).2; unfold f_picture; rw [if_pos (by exact g1)]; exact ⟨rfl, s0⟩
  rw [if_neg g1]
  by_cases g2 : ¬ (0 ≤ c ∧ c ≤ 7)
  · rw [if_pos g2]; show (f_picture h r p c).1 = _ ∧ SIM τ (f_picture h r p c).2; unfold f_picture; rw [if_neg (by exact g1), if_pos (by exact g2)]; exact ⟨rfl, s0⟩
  rw [if_neg g2]
  by_cases g3 : ¬ h 18 3 < 40
  · rw [if_pos g3]; show (f_picture h r p c).1 = _ ∧ SIM τ (f_picture h r p c).2; unfold f_picture; rw [if_neg (by exact g1), if_neg (by exact g2), if_pos (by omega)]; exact ⟨rfl, s0⟩
  rw [if_neg g3]
  show (f_picture (hs_ (hs_ (hs_ (hs_ h 19 (h 18 3).toNat r) 20 (h 18 3).toNat p) 21 (h 18 3).toNat c) 18 3 (h 18 3 + 1)) r p c).1 = h 18 3 + 1 ∧ SIM τ (f_picture (hs_ (hs_ (hs_ (hs_ h 19 (h 18 3).toNat r) 20 (h 18 3).toNat p) 21 (h 18 3).toNat c) 18 3 (h 18 3 + 1)) r p c).2
  unfold f_picture
  rw [if_neg (by exact g1), if_neg (by exact g2), if_neg (by show ¬ h 81 20 = 40; omega)]
  refine ⟨?_, SIM_picture s0 (by omega) (by omega) (by omega) (by omega)⟩
  show h 81 20 + 1 = h 18 3 + 1
  omega
theorem x_picturelessM (d : Nat) (τ : TT) (h : HT) (hT : TK τ) (x : MI h) (y : XR τ h) : S_ mX11_pictureless d 0 0 [.inr (some 0)] τ h (Zi τ fun v h' => v = (x_pictureless h).1 ∧ h' = (x_pictureless h).2) := by
  refine S_go (k := 1) (ls := [some (.inr (some 0)), none]) (by decide) rfl (Nat.le_of_ble_eq_true rfl) rfl ?_
  refine G_aload_n (i := 0) dX11_pictureless_0 rfl rfl ?_
  refine G_getR fX11_63 rfl dX11_pictureless_1 (o0 hT) (r0_9 hT) ?_
  refine G_getI (v := h 18 3) fX11_212 rfl dX11_pictureless_4 (o18 hT) rfl ?_
  refine G_istore_n (i := 1) (ls' := [some (.inr (some 0)), some (.inl (h 18 3))]) dX11_pictureless_7 rfl (by decide) rfl ?_
  refine G_aload_n (i := 0) dX11_pictureless_8 rfl rfl ?_
  refine G_getR fX11_63 rfl dX11_pictureless_9 (o0 hT) (r0_9 hT) ?_
  refine G_iconst dX11_pictureless_12 ?_
  refine G_putI fX11_212 dX11_pictureless_13 (o18 hT) ?_
  refine G_iload_n (i := 1) dX11_pictureless_16 rfl rfl ?_
  refine G_iretZ rfl dX11_pictureless_17 ?_
  exact ⟨rfl, rfl⟩

theorem SIM_pictureless {τ : TT} {h : HT} (s : SIM τ h)  : SIM τ (hs_ (hs_ h 18 3 0) 81 20 0) := by
  obtain ⟨hT, x, y⟩ := s
  generalize hH : (hs_ (hs_ h 18 3 0) 81 20 0) = H
  have o81_0 : H 81 0 = h 81 0 := by rw [← hH]; simp only [hs_, hf_]; (repeat (first | rfl | rw [if_neg (by omega)]))
  have o81_1 : H 81 1 = h 81 1 := by rw [← hH]; simp only [hs_, hf_]; (repeat (first | rfl | rw [if_neg (by omega)]))
  have o81_11 : H 81 11 = h 81 11 := by rw [← hH]; simp only [hs_, hf_]; (repeat (first | rfl | rw [if_neg (by omega)]))
  have o81_14 : H 81 14 = h 81 14 := by rw [← hH]; simp only [hs_, hf_]; (repeat (first | rfl | rw [if_neg (by omega)]))
  have o81_15 : H 81 15 = h 81 15 := by rw [← hH]; simp only [hs_, hf_]; (repeat (first | rfl | rw [if_neg (by omega)]))
  have o81_26 : H 81 26 = h 81 26 := by rw [← hH]; simp only [hs_, hf_]; (repeat (first | rfl | rw [if_neg (by omega)]))
  have o81_27 : H 81 27 = h 81 27 := by rw [← hH]; simp only [hs_, hf_]; (repeat (first | rfl | rw [if_neg (by omega)]))
  have o81_55 : H 81 55 = h 81 55 := by rw [← hH]; simp only [hs_, hf_]; (repeat (first | rfl | rw [if_neg (by omega)]))
  have q0_1 : H 0 1 = h 0 1 := by rw [← hH]; simp only [hs_, hf_]; (repeat (first | rfl | rw [if_neg (by omega)]))
  have q0_6 : H 0 6 = h 0 6 := by rw [← hH]; simp only [hs_, hf_]; (repeat (first | rfl | rw [if_neg (by omega)]))
  have q2_1 : H 2 1 = h 2 1 := by rw [← hH]; simp only [hs_, hf_]; (repeat (first | rfl | rw [if_neg (by omega)]))
  have q6_0 : H 6 0 = h 6 0 := by rw [← hH]; simp only [hs_, hf_]; (repeat (first | rfl | rw [if_neg (by omega)]))
  have q6_1 : H 6 1 = h 6 1 := by rw [← hH]; simp only [hs_, hf_]; (repeat (first | rfl | rw [if_neg (by omega)]))
  have q6_2 : H 6 2 = h 6 2 := by rw [← hH]; simp only [hs_, hf_]; (repeat (first | rfl | rw [if_neg (by omega)]))
  have q11_1 : H 11 1 = h 11 1 := by rw [← hH]; simp only [hs_, hf_]; (repeat (first | rfl | rw [if_neg (by omega)]))
  have q13_0 : H 13 0 = h 13 0 := by rw [← hH]; simp only [hs_, hf_]; (repeat (first | rfl | rw [if_neg (by omega)]))
  have q13_1 : H 13 1 = h 13 1 := by rw [← hH]; simp only [hs_, hf_]; (repeat (first | rfl | rw [if_neg (by omega)]))
  have q39_1 : H 39 1 = h 39 1 := by rw [← hH]; simp only [hs_, hf_]; (repeat (first | rfl | rw [if_neg (by omega)]))
  have q39_3 : H 39 3 = h 39 3 := by rw [← hH]; simp only [hs_, hf_]; (repeat (first | rfl | rw [if_neg (by omega)]))
  have o82 : ∀ k, H 82 k = h 82 k := fun k => by rw [← hH]; simp only [hs_, hf_]; (repeat (first | rfl | rw [if_neg (by omega)]))
  have o83 : ∀ k, H 83 k = h 83 k := fun k => by rw [← hH]; simp only [hs_, hf_]; (repeat (first | rfl | rw [if_neg (by omega)]))
  have o84 : ∀ k, H 84 k = h 84 k := fun k => by rw [← hH]; simp only [hs_, hf_]; (repeat (first | rfl | rw [if_neg (by omega)]))
  have o85 : ∀ k, H 85 k = h 85 k := fun k => by rw [← hH]; simp only [hs_, hf_]; (repeat (first | rfl | rw [if_neg (by omega)]))
  have o86 : ∀ k, H 86 k = h 86 k := fun k => by rw [← hH]; simp only [hs_, hf_]; (repeat (first | rfl | rw [if_neg (by omega)]))
  have o87 : ∀ k, H 87 k = h 87 k := fun k => by rw [← hH]; simp only [hs_, hf_]; (repeat (first | rfl | rw [if_neg (by omega)]))
  have o88 : ∀ k, H 88 k = h 88 k := fun k => by rw [← hH]; simp only [hs_, hf_]; (repeat (first | rfl | rw [if_neg (by omega)]))
  have o89 : ∀ k, H 89 k = h 89 k := fun k => by rw [← hH]; simp only [hs_, hf_]; (repeat (first | rfl | rw [if_neg (by omega)]))
  have o90 : ∀ k, H 90 k = h 90 k := fun k => by rw [← hH]; simp only [hs_, hf_]; (repeat (first | rfl | rw [if_neg (by omega)]))
  have o93 : ∀ k, H 93 k = h 93 k := fun k => by rw [← hH]; simp only [hs_, hf_]; (repeat (first | rfl | rw [if_neg (by omega)]))
  have o94 : ∀ k, H 94 k = h 94 k := fun k => by rw [← hH]; simp only [hs_, hf_]; (repeat (first | rfl | rw [if_neg (by omega)]))
  have o95 : ∀ k, H 95 k = h 95 k := fun k => by rw [← hH]; simp only [hs_, hf_]; (repeat (first | rfl | rw [if_neg (by omega)]))
  have o96 : ∀ k, H 96 k = h 96 k := fun k => by rw [← hH]; simp only [hs_, hf_]; (repeat (first | rfl | rw [if_neg (by omega)]))
  have o97 : ∀ k, H 97 k = h 97 k := fun k => by rw [← hH]; simp only [hs_, hf_]; (repeat (first | rfl | rw [if_neg (by omega)]))
  have o98 : ∀ k, H 98 k = h 98 k := fun k => by rw [← hH]; simp only [hs_, hf_]; (repeat (first | rfl | rw [if_neg (by omega)]))
  have o99 : ∀ k, H 99 k = h 99 k := fun k => by rw [← hH]; simp only [hs_, hf_]; (repeat (first | rfl | rw [if_neg (by omega)]))
  have o102 : ∀ k, H 102 k = h 102 k := fun k => by rw [← hH]; simp only [hs_, hf_]; (repeat (first | rfl | rw [if_neg (by omega)]))
  have o103 : ∀ k, H 103 k = h 103 k := fun k => by rw [← hH]; simp only [hs_, hf_]; (repeat (first | rfl | rw [if_neg (by omega)]))
  have o104 : ∀ k, H 104 k = h 104 k := fun k => by rw [← hH]; simp only [hs_, hf_]; (repeat (first | rfl | rw [if_neg (by omega)]))
  have o122 : ∀ k, H 122 k = h 122 k := fun k => by rw [← hH]; simp only [hs_, hf_]; (repeat (first | rfl | rw [if_neg (by omega)]))
  have o123 : ∀ k, H 123 k = h 123 k := fun k => by rw [← hH]; simp only [hs_, hf_]; (repeat (first | rfl | rw [if_neg (by omega)]))
  have o124 : ∀ k, H 124 k = h 124 k := fun k => by rw [← hH]; simp only [hs_, hf_]; (repeat (first | rfl | rw [if_neg (by omega)]))
  have o3 : ∀ k, H 3 k = h 3 k := fun k => by rw [← hH]; simp only [hs_, hf_]; (repeat (first | rfl | rw [if_neg (by omega)]))
  have o4 : ∀ k, H 4 k = h 4 k := fun k => by rw [← hH]; simp only [hs_, hf_]; (repeat (first | rfl | rw [if_neg (by omega)]))
  have o5 : ∀ k, H 5 k = h 5 k := fun k => by rw [← hH]; simp only [hs_, hf_]; (repeat (first | rfl | rw [if_neg (by omega)]))
  have o7 : ∀ k, H 7 k = h 7 k := fun k => by rw [← hH]; simp only [hs_, hf_]; (repeat (first | rfl | rw [if_neg (by omega)]))
  have o8 : ∀ k, H 8 k = h 8 k := fun k => by rw [← hH]; simp only [hs_, hf_]; (repeat (first | rfl | rw [if_neg (by omega)]))
  have o9 : ∀ k, H 9 k = h 9 k := fun k => by rw [← hH]; simp only [hs_, hf_]; (repeat (first | rfl | rw [if_neg (by omega)]))
  have o12 : ∀ k, H 12 k = h 12 k := fun k => by rw [← hH]; simp only [hs_, hf_]; (repeat (first | rfl | rw [if_neg (by omega)]))
  have o14 : ∀ k, H 14 k = h 14 k := fun k => by rw [← hH]; simp only [hs_, hf_]; (repeat (first | rfl | rw [if_neg (by omega)]))
  have o15 : ∀ k, H 15 k = h 15 k := fun k => by rw [← hH]; simp only [hs_, hf_]; (repeat (first | rfl | rw [if_neg (by omega)]))
  have o16 : ∀ k, H 16 k = h 16 k := fun k => by rw [← hH]; simp only [hs_, hf_]; (repeat (first | rfl | rw [if_neg (by omega)]))
  have o17 : ∀ k, H 17 k = h 17 k := fun k => by rw [← hH]; simp only [hs_, hf_]; (repeat (first | rfl | rw [if_neg (by omega)]))
  have o19 : ∀ k, H 19 k = h 19 k := fun k => by rw [← hH]; simp only [hs_, hf_]; (repeat (first | rfl | rw [if_neg (by omega)]))
  have o20 : ∀ k, H 20 k = h 20 k := fun k => by rw [← hH]; simp only [hs_, hf_]; (repeat (first | rfl | rw [if_neg (by omega)]))
  have o21 : ∀ k, H 21 k = h 21 k := fun k => by rw [← hH]; simp only [hs_, hf_]; (repeat (first | rfl | rw [if_neg (by omega)]))
  have o41 : ∀ k, H 41 k = h 41 k := fun k => by rw [← hH]; simp only [hs_, hf_]; (repeat (first | rfl | rw [if_neg (by omega)]))
  have o121 : ∀ k, H 121 k = h 121 k := fun k => by rw [← hH]; simp only [hs_, hf_]; (repeat (first | rfl | rw [if_neg (by omega)]))
  have o100 : ∀ k, H 100 k = h 100 k := fun k => by rw [← hH]; simp only [hs_, hf_]; (repeat (first | rfl | rw [if_neg (by omega)]))
  have hbig : ∀ a k : Nat, 126 ≤ a → H a k = h a k := fun a k ha => by rw [← hH]; simp only [hs_, hf_]; (repeat (first | rfl | rw [if_neg (by omega)]))
  have hst : ∀ a k : Nat, 24 ≤ a → a ≤ 27 → H a k = h a k := fun a k ha hb => by rw [← hH]; simp only [hs_, hf_]; (repeat (first | rfl | rw [if_neg (by omega)]))
  have htp : ∀ a k : Nat, 69 ≤ a → a ≤ 80 → H a k = h a k := fun a k ha hb => by rw [← hH]; simp only [hs_, hf_]; (repeat (first | rfl | rw [if_neg (by omega)]))
  refine ⟨hT, ⟨?_, ?_, ?_, ?_, ?_, ?_, ?_, ?_, ?_, ?_, ?_, ?_, ?_, ?_, ?_, ?_, ?_, ?_, ?_, ?_, ?_, ?_, ?_, ?_, ?_, ?_, ?_, ?_, ?_, ?_, ?_, ?_⟩, ⟨?_, ?_, ?_, ?_, ?_, ?_, ?_, ?_, ?_, ?_, ?_, ?_, ?_, ?_, ?_, ?_, ?_, ?_, ?_, ?_, ?_, ?_, ?_, ?_, ?_, ?_, ?_, ?_, ?_⟩⟩
  · simp only [o81_0]; exact x.p_
  · simp only [o81_1]; exact x.n_
  · simp only [o81_1, o81_11]; exact x.d_
  · simp only [o81_1, o81_14]; exact x.s_
  · simp only [o81_1, o81_15]; exact x.r_
  · rw [← hH, hs_eq]; omega
  · simp only [o81_26]; exact x.f_
  · simp only [o81_27]; exact x.e_
  · simp only [o81_55]; exact x.a_
  · simp only [o82]; exact x.ki_
  · simp only [o83]; exact x.re_
  · simp only [o84]; exact x.pa_
  · simp only [o85]; exact x.wh_
  · simp only [o81_1, o86]; exact x.ha_
  · simp only [o81_1, o86]; exact x.hi_
  · simp only [o87]; exact x.co_
  · simp only [o88]; exact x.le_
  · simp only [o89]; exact x.be_
  · simp only [o90]; exact x.cc_
  · simp only [o81_1, o81_14, o93]; exact x.st_
  · simp only [o94]; exact x.mk_
  · simp only [o95]; exact x.cr_
  · simp only [o96]; exact x.cm_
  · simp only [o97]; exact x.t7_
  · simp only [o98]; exact x.t8_
  · simp only [o99]; exact x.t9_
  · simp only [o81_26, o102]; exact x.ma_
  · simp only [o81_26, o102, o103]; exact x.to_
  · simp only [o104]; exact x.tx_
  · simp only [o122]; exact x.so_
  · simp only [o123]; exact x.si_
  · simp only [o124]; exact x.it_
  · simp only [o81_0, q0_1]; exact y.pc_
  · intro k hk; rw [o81_0] at hk; obtain ⟨o, p1, p2, p3, p4, p5, p6, p7⟩ := y.pe_ k hk; exact ⟨o, p1, p2, p3, by rw [hbig o 0 p2]; exact p4, by rw [hbig o 1 p2, o82]; exact p5, by rw [hbig o 2 p2, o83]; exact p6, by rw [hbig o 3 p2, o84]; exact p7⟩
  · simp only [o81_55, q2_1]; exact y.ra_
  · simp only [o3, o121]; exact y.tr_
  · simp only [o81_1, o85, o86, o4]; exact y.wh_
  · simp only [o4]; exact y.wr_
  · simp only [o87, o5]; exact y.co_
  · simp only [o81_1, o81_14, o81_15, q6_0, q6_1, q6_2]; exact y.fn_
  · simp only [o81_1, o86, o7]; exact y.or_
  · simp only [o81_1, o88, o8]; exact y.le_
  · simp only [o81_1, o94, o9]; exact y.mk_
  · simp only [o81_1, o81_11, q0_6]; exact y.da_
  · simp only [o81_1, o81_14, q11_1]; exact y.dc_
  · simp only [o81_1, o81_14, o93, o12]; exact y.dd_
  · simp only [o81_1, o81_15, q13_0, q13_1]; exact y.cn_
  · intro r p hr hp; rw [o81_15] at hr; rw [o81_1] at hp; rw [o14, o15, o16, o95, o96, f_top_k o81_1 o95 o96]; exact y.cl_ r p hr hp
  · simp only [o14, o15]; exact y.cr_
  · simp only [o17]; exact y.cc_
  · simp only [o81_1, o81_11, o81_15, o90, o17]; exact y.ce_
  · rw [← hH]; exact ⟨rfl, fun k hk => y.pi_.2 k hk⟩
  · intro hd; rw [o81_11] at hd; rw [o81_1, show t_0 H = t_0 h from by unfold t_0; rw [show H 89 = h 89 from funext o89]]; exact (y.sf_ hd).fr (fun b j b1 b2 => hst b j (by omega) (by omega))
  · rw [o81_26]; exact (y.fg_.fr q39_1 hbig).cg (fun f hf => figL_c (o102 f) (fun k hk => o103 _))
  · simp only [o81_27, q39_3, o104, o41]; exact y.tx_
  · intro t ht; have := y.tp_ t ht; rw [htp (69 + 2 * t) 0 (by omega) (by omega), htp (69 + 2 * t) 1 (by omega) (by omega), o122, o123]; refine ⟨this.1, this.2.1, fun i hi => ?_⟩; rw [htp (70 + 2 * t) i (by omega) (by omega), o124]; exact this.2.2 i hi
  · simp only [o81_1, o81_11, o86]; exact y.nd_
  · simp only [o122, o123]; exact y.sn_
  · intro r p hr hp; rw [o81_15] at hr; rw [o81_1] at hp ⊢; rw [o95]; exact y.ok_ r p hr hp
  · simp only [o100]; exact y.gs_
  · rw [o81_0, o81_26]; exact y.sz_
theorem op_pictureless {τ : TT} {h : HT} (s : SIM τ h)  : OPS mX11_pictureless mX12_pictureless 20 0 0 [] τ h := by
  have s0 := s
  obtain ⟨hT, x, y⟩ := s
  have n9 := x.n9
  have d1 := x.d1
  have n_ := x.n_
  have fn := y.fn_
  have da := y.da_
  refine OPS_f x (x_pictureless h) (fun g => f_pictureless g ) (fun d => x_picturelessM (d + 20) τ h hT x y) (fun a i z1 z2 => by unfold x_pictureless; (repeat (first | rfl | (apply (apply_ite (fun z : Int × HT => z.2 a i) _ _ _).trans; split))); all_goals (simp only [hs_, hf_]; (repeat (first | rfl | rw [if_neg (by omega)])))) (fun d x1 => m_pictureless (d + 20) τ _ hT) ?_
  show (f_pictureless (x_pictureless h).2 ).1 = (x_pictureless h).1 ∧ SIM τ (f_pictureless (x_pictureless h).2 ).2
  unfold x_pictureless
  exact ⟨y.pi_.1.symm, SIM_pictureless s0⟩
