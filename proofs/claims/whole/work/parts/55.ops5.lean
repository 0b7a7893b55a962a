/-! operations: tapes, side by side -/
theorem op_tape {τ : TT} {h : HT} (s : SIM τ h) (t s_ k_ : Int) (r_t : -2147483648 ≤ t ∧ t ≤ 2147483647) (r_s_ : -2147483648 ≤ s_ ∧ s_ ≤ 2147483647) (r_k_ : -2147483648 ≤ k_ ∧ k_ ≤ 2147483647) : OPS mX11_tape mX12_tape 20 0 0 [.inl t, .inl s_, .inl k_] τ h := by
  have s0 := s
  obtain ⟨hT, x, y⟩ := s
  have n9 := x.n9
  have d1 := x.d1
  have n_ := x.n_
  have fn := y.fn_
  have da := y.da_
  refine OPS_f x (x_tape h t s_ k_) (fun g => f_tape g t s_ k_) (fun d => x_tapeM (d + 18) τ h hT x y t s_ k_ r_t r_s_ r_k_) (fun a i z1 z2 => by unfold x_tape; (repeat' (first | rfl | (apply (apply_ite (fun z : Int × HT => z.2 a i) _ _ _).trans; split))); all_goals (simp only [hs_, hf_]; (repeat' (first | rfl | rw [if_neg (by omega)])))) (fun d x1 => m_tape (d + 18) τ _ hT t s_ k_ r_t r_s_ r_k_) ?_
  show (f_tape (x_tape h t s_ k_).2 t s_ k_).1 = (x_tape h t s_ k_).1 ∧ SIM τ (f_tape (x_tape h t s_ k_).2 t s_ k_).2
  unfold x_tape
  by_cases g1 : ¬ (0 ≤ t ∧ t < 6)
  · rw [if_pos g1]; show (f_tape h t s_ k_).1 = _ ∧ SIM τ (f_tape h t s_ k_).2; unfold f_tape; rw [if_pos (by omega)]; exact ⟨rfl, s0⟩
  rw [if_neg g1]
  have e1 : ∀ (g : HT), (f_tape g t s_ k_) = if ¬ (-1 ≤ s_ ∧ s_ ≤ 4) ∨ (0 ≤ s_ ∧ 60 < k_) then (-2, g) else if 0 ≤ s_ ∧ k_ < 0 then (-14, g) else (1, hf_ (hs_ (hs_ g 122 t.toNat s_) 123 t.toNat (if s_ < 0 then 0 else k_)) 124 (60 * t.toNat) (60 * t.toNat + 60) (fun _ => 0)) := fun g => if_neg (by omega)
  rw [e1]
  by_cases g2 : s_ = -1
  · rw [if_pos g2, if_neg (by omega), if_neg (by omega), if_pos (by omega)]; subst g2; exact ⟨rfl, SIM_tapeE s0 (by omega)⟩
  rw [if_neg g2]
  by_cases g3 : ¬ (0 ≤ s_ ∧ s_ ≤ 4) ∨ 60 < k_
  · rw [if_pos g3, if_pos (by omega)]; exact ⟨rfl, s0⟩
  rw [if_neg g3]
  by_cases g4 : k_ < 0
  · rw [if_pos g4, if_neg (by omega), if_pos (by omega)]; exact ⟨rfl, s0⟩
  rw [if_neg g4, if_neg (by omega), if_neg (by omega), if_neg (by omega)]
  exact ⟨rfl, SIM_tapeB s0 (by omega) (by omega) (by omega)⟩
theorem SIM_item {τ : TT} {h : HT} (s : SIM τ h) {T i : Nat} {v : Int} (hTT : T < 6) (hi6 : (i : Int) < h 123 T) (hv : -2147483648 ≤ v ∧ v ≤ 2147483647) : SIM τ (hs_ (hs_ h (69 + 2 * T + 1) i v) 124 (60 * T + i) v) := by
  obtain ⟨hT, x, y⟩ := s
  have i60 := x.si_ T hTT
  generalize hH : (hs_ (hs_ h (69 + 2 * T + 1) i v) 124 (60 * T + i) v) = H
  have o81_0 : H 81 0 = h 81 0 := by rw [← hH]; simp only [hs_, hf_]; (repeat (first | rfl | rw [if_neg (by omega)]))
  have o81_1 : H 81 1 = h 81 1 := by rw [← hH]; simp only [hs_, hf_]; (repeat (first | rfl | rw [if_neg (by omega)]))
  have o81_11 : H 81 11 = h 81 11 := by rw [← hH]; simp only [hs_, hf_]; (repeat (first | rfl | rw [if_neg (by omega)]))
  have o81_14 : H 81 14 = h 81 14 := by rw [← hH]; simp only [hs_, hf_]; (repeat (first | rfl | rw [if_neg (by omega)]))
  have o81_15 : H 81 15 = h 81 15 := by rw [← hH]; simp only [hs_, hf_]; (repeat (first | rfl | rw [if_neg (by omega)]))
  have o81_20 : H 81 20 = h 81 20 := by rw [← hH]; simp only [hs_, hf_]; (repeat (first | rfl | rw [if_neg (by omega)]))
  have o81_26 : H 81 26 = h 81 26 := by rw [← hH]; simp only [hs_, hf_]; (repeat (first | rfl | rw [if_neg (by omega)]))
  have o81_27 : H 81 27 = h 81 27 := by rw [← hH]; simp only [hs_, hf_]; (repeat (first | rfl | rw [if_neg (by omega)]))
  have o81_55 : H 81 55 = h 81 55 := by rw [← hH]; simp only [hs_, hf_]; (repeat (first | rfl | rw [if_neg (by omega)]))
  have q0_1 : H 0 1 = h 0 1 := by rw [← hH]; simp only [hs_, hf_]; (repeat (first | rfl | rw [if_neg (by omega)]))
  have q0_6 : H 0 6 = h 0 6 := by rw [← hH]; simp only [hs_, hf_]; (repeat (first | rfl | rw [if_neg (by omega)]))
  have q2_1 : H 2 1 = h 2 1 := by rw [← hH]; simp only [hs_, hf_]; (repeat (first | rfl | rw [if_neg (by omega)]))
  have q6_0 : H 6 0 = h 6 0 := by rw [← hH]; simp only [hs_, hf_]; (repeat (first | rfl | rw [if_neg (by omega)]))
  have q6_1 : H 6 1 = h 6 1 := by rw [← hH]; simp only [hs_, hf_]; (repeat (first | rfl | rw [if_neg (by omega)]))
  have q6_2 : H 6 2 = h 6 2 := by rw [← hH]; simp only [hs_, hf_]; (repeat (first | rfl | rw [if_neg (by omega)]))
  have q11_1 : H 11 1 = h 11 1 := by rw [← hH]; simp only [hs_, hf_]; (repeat (first | rfl | rw [if_neg (by omega)]))
  have q13_0 : H 13 0 = h 13 0 := by rw [← hH]; simp only [hs_, hf_]; (repeat (first | rfl | rw [if_neg (by omega)]))
  have q13_1 : H 13 1 = h 13 1 := by rw [← hH]; simp only [hs_, hf_]; (repeat (first | rfl | rw [if_neg (by omega)]))
  have q18_3 : H 18 3 = h 18 3 := by rw [← hH]; simp only [hs_, hf_]; (repeat (first | rfl | rw [if_neg (by omega)]))
  have q39_1 : H 39 1 = h 39 1 := by rw [← hH]; simp only [hs_, hf_]; (repeat (first | rfl | rw [if_neg (by omega)]))
  have q39_3 : H 39 3 = h 39 3 := by rw [← hH]; simp only [hs_, hf_]; (repeat (first | rfl | rw [if_neg (by omega)]))
  have o82 : ∀ k, H 82 k = h 82 k := fun k => by rw [← hH]; simp only [hs_, hf_]; (repeat (first | rfl | rw [if_neg (by omega)]))
  have o83 : ∀ k, H 83 k = h 83 k := fun k => by rw [← hH]; simp only [hs_, hf_]; (repeat (first | rfl | rw [if_neg (by omega)]))
  have o84 : ∀ k, H 84 k = h 84 k := fun k => by rw [← hH]; simp only [hs_, hf_]; (repeat (first | rfl | rw [if_neg (by omega)]))
  have o85 : ∀ k, H 85 k = h 85 k := fun k => by rw [← hH]; simp only [hs_, hf_]; (repeat (first | rfl | rw [if_neg (by omega)]))
  have o86 : ∀ k, H 86 k = h 86 k := fun k => by rw [← hH]; simp only [hs_, hf_]; (repeat (first | rfl | rw [if_neg (by omega)]))
  have o87 : ∀ k, H 87 k = h 87 k := fun k => by rw [← hH]; simp only [hs_, hf_]; (repeat (first | rfl | rw [if_neg (by omega)]))
  have o88 : ∀ k, H 88 k = h 88 k := fun k => by rw [← hH]; simp only [hs_, hf_]; (repeat (first | rfl | rw [if_neg (by omega)]))
  have o89 : ∀ k, H 89 k = h 89 k := fun k => by rw [← hH]; simp only [hs_, hf_]; (repeat (first | rfl | rw [if_neg (by omega)]))
  have o90 : ∀ k, H 90 k = h 90 k := fun k => by rw [← hH]; simp only [hs_, hf_]; (repeat (first | rfl | rw [if_neg (by omega)]))
  have o93 : ∀ k, H 93 k = h 93 k := fun k => by rw [← hH]; simp only [hs_, hf_]; (repeat (first | rfl | rw [if_neg (by omega)]))
  have o94 : ∀ k, H 94 k = h 94 k := fun k => by rw [← hH]; simp only [hs_, hf_]; (repeat (first | rfl | rw [if_neg (by omega)]))
  have o95 : ∀ k, H 95 k = h 95 k := fun k => by rw [← hH]; simp only [hs_, hf_]; (repeat (first | rfl | rw [if_neg (by omega)]))
  have o96 : ∀ k, H 96 k = h 96 k := fun k => by rw [← hH]; simp only [hs_, hf_]; (repeat (first | rfl | rw [if_neg (by omega)]))
  have o97 : ∀ k, H 97 k = h 97 k := fun k => by rw [← hH]; simp only [hs_, hf_]; (repeat (first | rfl | rw [if_neg (by omega)]))
  have o98 : ∀ k, H 98 k = h 98 k := fun k => by rw [← hH]; simp only [hs_, hf_]; (repeat (first | rfl | rw [if_neg (by omega)]))
  have o99 : ∀ k, H 99 k = h 99 k := fun k => by rw [← hH]; simp only [hs_, hf_]; (repeat (first | rfl | rw [if_neg (by omega)]))
  have o102 : ∀ k, H 102 k = h 102 k := fun k => by rw [← hH]; simp only [hs_, hf_]; (repeat (first | rfl | rw [if_neg (by omega)]))
  have o103 : ∀ k, H 103 k = h 103 k := fun k => by rw [← hH]; simp only [hs_, hf_]; (repeat (first | rfl | rw [if_neg (by omega)]))
  have o104 : ∀ k, H 104 k = h 104 k := fun k => by rw [← hH]; simp only [hs_, hf_]; (repeat (first | rfl | rw [if_neg (by omega)]))
  have o122 : ∀ k, H 122 k = h 122 k := fun k => by rw [← hH]; simp only [hs_, hf_]; (repeat (first | rfl | rw [if_neg (by omega)]))
  have o123 : ∀ k, H 123 k = h 123 k := fun k => by rw [← hH]; simp only [hs_, hf_]; (repeat (first | rfl | rw [if_neg (by omega)]))
  have o3 : ∀ k, H 3 k = h 3 k := fun k => by rw [← hH]; simp only [hs_, hf_]; (repeat (first | rfl | rw [if_neg (by omega)]))
  have o4 : ∀ k, H 4 k = h 4 k := fun k => by rw [← hH]; simp only [hs_, hf_]; (repeat (first | rfl | rw [if_neg (by omega)]))
  have o5 : ∀ k, H 5 k = h 5 k := fun k => by rw [← hH]; simp only [hs_, hf_]; (repeat (first | rfl | rw [if_neg (by omega)]))
  have o7 : ∀ k, H 7 k = h 7 k := fun k => by rw [← hH]; simp only [hs_, hf_]; (repeat (first | rfl | rw [if_neg (by omega)]))
  have o8 : ∀ k, H 8 k = h 8 k := fun k => by rw [← hH]; simp only [hs_, hf_]; (repeat (first | rfl | rw [if_neg (by omega)]))
  have o9 : ∀ k, H 9 k = h 9 k := fun k => by rw [← hH]; simp only [hs_, hf_]; (repeat (first | rfl | rw [if_neg (by omega)]))
  have o12 : ∀ k, H 12 k = h 12 k := fun k => by rw [← hH]; simp only [hs_, hf_]; (repeat (first | rfl | rw [if_neg (by omega)]))
  have o14 : ∀ k, H 14 k = h 14 k := fun k => by rw [← hH]; simp only [hs_, hf_]; (repeat (first | rfl | rw [if_neg (by omega)]))
  have o15 : ∀ k, H 15 k = h 15 k := fun k => by rw [← hH]; simp only [hs_, hf_]; (repeat (first | rfl | rw [if_neg (by omega)]))
  have o16 : ∀ k, H 16 k = h 16 k := fun k => by rw [← hH]; simp only [hs_, hf_]; (repeat (first | rfl | rw [if_neg (by omega)]))
  have o17 : ∀ k, H 17 k = h 17 k := fun k => by rw [← hH]; simp only [hs_, hf_]; (repeat (first | rfl | rw [if_neg (by omega)]))
  have o19 : ∀ k, H 19 k = h 19 k := fun k => by rw [← hH]; simp only [hs_, hf_]; (repeat (first | rfl | rw [if_neg (by omega)]))
  have o20 : ∀ k, H 20 k = h 20 k := fun k => by rw [← hH]; simp only [hs_, hf_]; (repeat (first | rfl | rw [if_neg (by omega)]))
  have o21 : ∀ k, H 21 k = h 21 k := fun k => by rw [← hH]; simp only [hs_, hf_]; (repeat (first | rfl | rw [if_neg (by omega)]))
  have o41 : ∀ k, H 41 k = h 41 k := fun k => by rw [← hH]; simp only [hs_, hf_]; (repeat (first | rfl | rw [if_neg (by omega)]))
  have o121 : ∀ k, H 121 k = h 121 k := fun k => by rw [← hH]; simp only [hs_, hf_]; (repeat (first | rfl | rw [if_neg (by omega)]))
  have o100 : ∀ k, H 100 k = h 100 k := fun k => by rw [← hH]; simp only [hs_, hf_]; (repeat (first | rfl | rw [if_neg (by omega)]))
  have hbig : ∀ a k : Nat, 126 ≤ a → H a k = h a k := fun a k ha => by rw [← hH]; simp only [hs_, hf_]; (repeat (first | rfl | rw [if_neg (by omega)]))
  have hst : ∀ a k : Nat, 24 ≤ a → a ≤ 27 → H a k = h a k := fun a k ha hb => by rw [← hH]; simp only [hs_, hf_]; (repeat (first | rfl | rw [if_neg (by omega)]))
  refine ⟨hT, ⟨?_, ?_, ?_, ?_, ?_, ?_, ?_, ?_, ?_, ?_, ?_, ?_, ?_, ?_, ?_, ?_, ?_, ?_, ?_, ?_, ?_, ?_, ?_, ?_, ?_, ?_, ?_, ?_, ?_, ?_, ?_, ?_⟩, ⟨?_, ?_, ?_, ?_, ?_, ?_, ?_, ?_, ?_, ?_, ?_, ?_, ?_, ?_, ?_, ?_, ?_, ?_, ?_, ?_, ?_, ?_, ?_, ?_, ?_, ?_, ?_, ?_, ?_⟩⟩
  · simp only [o81_0]; exact x.p_
  · simp only [o81_1]; exact x.n_
  · simp only [o81_1, o81_11]; exact x.d_
  · simp only [o81_1, o81_14]; exact x.s_
  · simp only [o81_1, o81_15]; exact x.r_
  · simp only [o81_20]; exact x.t_
  · simp only [o81_26]; exact x.f_
  · simp only [o81_27]; exact x.e_
  · simp only [o81_55]; exact x.a_
  · simp only [o82]; exact x.ki_
  · simp only [o83]; exact x.re_
  · simp only [o84]; exact x.pa_
  · simp only [o85]; exact x.wh_
  · simp only [o81_1, o86]; exact x.ha_
  · simp only [o81_1, o86]; exact x.hi_
  · simp only [o87]; exact x.co_
  · simp only [o88]; exact x.le_
  · simp only [o89]; exact x.be_
  · simp only [o90]; exact x.cc_
  · simp only [o81_1, o81_14, o93]; exact x.st_
  · simp only [o94]; exact x.mk_
  · simp only [o95]; exact x.cr_
  · simp only [o96]; exact x.cm_
  · simp only [o97]; exact x.t7_
  · simp only [o98]; exact x.t8_
  · simp only [o99]; exact x.t9_
  · simp only [o81_26, o102]; exact x.ma_
  · simp only [o81_26, o102, o103]; exact x.to_
  · simp only [o104]; exact x.tx_
  · simp only [o122]; exact x.so_
  · simp only [o123]; exact x.si_
  · intro k hk; rw [← hH]; have := x.it_ k hk; simp only [hs_]; by_cases z : k = 60 * T + i; (subst z; simp <;> omega); (simp [z] <;> omega)
  · simp only [o81_0, q0_1]; exact y.pc_
  · intro k hk; rw [o81_0] at hk; obtain ⟨o, p1, p2, p3, p4, p5, p6, p7⟩ := y.pe_ k hk; exact ⟨o, p1, p2, p3, by rw [hbig o 0 p2]; exact p4, by rw [hbig o 1 p2, o82]; exact p5, by rw [hbig o 2 p2, o83]; exact p6, by rw [hbig o 3 p2, o84]; exact p7⟩
  · simp only [o81_55, q2_1]; exact y.ra_
  · simp only [o3, o121]; exact y.tr_
  · simp only [o81_1, o85, o86, o4]; exact y.wh_
  · simp only [o4]; exact y.wr_
  · simp only [o87, o5]; exact y.co_
  · simp only [o81_1, o81_14, o81_15, q6_0, q6_1, q6_2]; exact y.fn_
  · simp only [o81_1, o86, o7]; exact y.or_
  · simp only [o81_1, o88, o8]; exact y.le_
  · simp only [o81_1, o94, o9]; exact y.mk_
  · simp only [o81_1, o81_11, q0_6]; exact y.da_
  · simp only [o81_1, o81_14, q11_1]; exact y.dc_
  · simp only [o81_1, o81_14, o93, o12]; exact y.dd_
  · simp only [o81_1, o81_15, q13_0, q13_1]; exact y.cn_
  · intro r p hr hp; rw [o81_15] at hr; rw [o81_1] at hp; rw [o14, o15, o16, o95, o96, f_top_k o81_1 o95 o96]; exact y.cl_ r p hr hp
  · simp only [o14, o15]; exact y.cr_
  · simp only [o17]; exact y.cc_
  · simp only [o81_1, o81_11, o81_15, o90, o17]; exact y.ce_
  · simp only [o81_20, q18_3, o97, o98, o99, o19, o20, o21]; exact y.pi_
  · intro hd; rw [o81_11] at hd; rw [o81_1, show t_0 H = t_0 h from by unfold t_0; rw [show H 89 = h 89 from funext o89]]; exact (y.sf_ hd).fr (fun b j b1 b2 => hst b j (by omega) (by omega))
  · rw [o81_26]; exact (y.fg_.fr q39_1 hbig).cg (fun f hf => figL_c (o102 f) (fun k hk => o103 _))
  · simp only [o81_27, q39_3, o104, o41]; exact y.tx_
  · intro t ht
    have e := y.tp_ t ht
    have t60 := x.si_ t ht
    rw [← hH]
    refine ⟨?_, ?_, fun j hj => ?_⟩
    · simp only [hs_]; (repeat rw [if_neg (by omega)]); exact e.1
    · simp only [hs_]; (repeat rw [if_neg (by omega)]); exact e.2.1
    · have hj2 : (j : Int) < h 123 t := by
        simp only [hs_] at hj; (repeat rw [if_neg (by omega)] at hj); exact hj
      by_cases z : t = T ∧ j = i
      · obtain ⟨rfl, rfl⟩ := z
        simp only [hs_]; rw [if_neg (by omega), if_pos (by first | omega | trivial | exact ⟨by omega, trivial⟩ | exact ⟨trivial, trivial⟩ | (refine ⟨trivial, ?_⟩; omega) | (refine ⟨trivial, ?_, ?_⟩ <;> omega)), if_pos (by first | omega | trivial | exact ⟨by omega, trivial⟩ | exact ⟨trivial, trivial⟩ | (refine ⟨trivial, ?_⟩; omega) | (refine ⟨trivial, ?_, ?_⟩ <;> omega))]
      · simp only [hs_]; (repeat rw [if_neg (by omega)]); exact e.2.2 j hj2
  · simp only [o81_1, o81_11, o86]; exact y.nd_
  · simp only [o122, o123]; exact y.sn_
  · intro r p hr hp; rw [o81_15] at hr; rw [o81_1] at hp ⊢; rw [o95]; exact y.ok_ r p hr hp
  · simp only [o100]; exact y.gs_
  · rw [o81_0, o81_26]; exact y.sz_
theorem f_nar_r {s v : Int} (hv : -2147483648 ≤ v ∧ v ≤ 2147483647) : -2147483648 ≤ f_nar s v ∧ f_nar s v ≤ 2147483647 := by
  have e1 : -2147483648 ≤ b_i2b v ∧ b_i2b v ≤ 2147483647 := by
    unfold b_i2b
    have h1 := Int32.toInt_lt ((Int32.ofInt v).toInt8.toInt32)
    have h2 := Int32.le_toInt ((Int32.ofInt v).toInt8.toInt32)
    omega
  have e2 : -2147483648 ≤ b_i2s v ∧ b_i2s v ≤ 2147483647 := by
    unfold b_i2s
    have h1 := Int32.toInt_lt ((Int32.ofInt v).toInt16.toInt32)
    have h2 := Int32.le_toInt ((Int32.ofInt v).toInt16.toInt32)
    omega
  have e3 := b_and_r v 65535
  unfold f_nar
  split
  · exact e1
  · split
    · exact e2
    · split
      · split <;> omega
      · split
        · exact e3
        · exact hv
theorem op_item {τ : TT} {h : HT} (s : SIM τ h) (t i v : Int) (r_t : -2147483648 ≤ t ∧ t ≤ 2147483647) (r_i : -2147483648 ≤ i ∧ i ≤ 2147483647) (r_v : -2147483648 ≤ v ∧ v ≤ 2147483647) : OPS mX11_item mX12_item 20 0 0 [.inl t, .inl i, .inl v] τ h := by
  have s0 := s
  obtain ⟨hT, x, y⟩ := s
  have n9 := x.n9
  have d1 := x.d1
  have n_ := x.n_
  have fn := y.fn_
  have da := y.da_
  have tf : (0 ≤ t ∧ t < 6) → h (69 + 2 * t.toNat) 0 = h 122 t.toNat ∧ h (69 + 2 * t.toNat) 1 = h 123 t.toNat := fun q => ⟨(y.tp_ t.toNat (by omega)).1, (y.tp_ t.toNat (by omega)).2.1⟩
  have so : (0 ≤ t ∧ t < 6) → (-1 ≤ h 122 t.toNat ∧ h 122 t.toNat ≤ 4) ∧ (0 ≤ h 123 t.toNat ∧ h 123 t.toNat ≤ 60) := fun q => ⟨x.so_ t.toNat (by omega), x.si_ t.toNat (by omega)⟩
  refine OPS_f x (x_item h t i v) (fun g => f_item g t i v) (fun d => x_itemM (d + 19) τ h hT x y t i v r_t r_i r_v) (fun a i z1 z2 => by unfold x_item; (repeat (first | rfl | (apply (apply_ite (fun z : Int × HT => z.2 a i) _ _ _).trans; split))); all_goals (simp only [hs_, hf_]; (repeat (first | rfl | rw [if_neg (by omega)])))) (fun d x1 => m_item (d + 18) τ _ hT t i v r_t r_i r_v x1.so_ x1.si_) ?_
  show (f_item (x_item h t i v).2 t i v).1 = (x_item h t i v).1 ∧ SIM τ (f_item (x_item h t i v).2 t i v).2
  unfold x_item
  by_cases g1 : ¬ (0 ≤ t ∧ t < 6)
  · rw [if_pos g1]; show (f_item h t i v).1 = _ ∧ SIM τ (f_item h t i v).2; unfold f_item; rw [if_pos (by omega)]; exact ⟨rfl, s0⟩
  rw [if_neg g1]
  have tf := tf (by omega)
  have so := so (by omega)
  by_cases g2 : h (69 + 2 * t.toNat) 0 = -1
  · rw [if_pos g2]; show (f_item h t i v).1 = _ ∧ SIM τ (f_item h t i v).2; unfold f_item; rw [if_neg (by omega), if_pos (by omega)]; exact ⟨rfl, s0⟩
  rw [if_neg g2]
  by_cases g3 : ¬ (0 ≤ i ∧ i < h (69 + 2 * t.toNat) 1)
  · rw [if_pos g3]; show (f_item h t i v).1 = _ ∧ SIM τ (f_item h t i v).2; unfold f_item; rw [if_neg (by omega), if_neg (by omega), if_pos (by omega)]; exact ⟨rfl, s0⟩
  rw [if_neg g3]
  show (f_item (hs_ h (69 + 2 * t.toNat + 1) i.toNat (x_cut (h (69 + 2 * t.toNat) 0) v)) t i v).1 = 1 ∧ SIM τ (f_item (hs_ h (69 + 2 * t.toNat + 1) i.toNat (x_cut (h (69 + 2 * t.toNat) 0) v)) t i v).2
  have k1 : hs_ h (69 + 2 * t.toNat + 1) i.toNat (x_cut (h (69 + 2 * t.toNat) 0) v) 122 t.toNat = h 122 t.toNat := hs_na (by omega)
  have k2 : hs_ h (69 + 2 * t.toNat + 1) i.toNat (x_cut (h (69 + 2 * t.toNat) 0) v) 123 t.toNat = h 123 t.toNat := hs_na (by omega)
  unfold f_item
  rw [if_neg (by omega), if_neg (by rw [k1]; omega), if_neg (by rw [k2]; omega), k1, x_cut_e, tf.1]
  refine ⟨rfl, ?_⟩
  rw [show (60 * t + i).toNat = 60 * t.toNat + i.toNat by omega]
  exact SIM_item s0 (by omega) (by omega) (f_nar_r r_v)
theorem SIM_shift {τ : TT} {h : HT} (s : SIM τ h) {T O i j k : Nat} (hTT : T < 6) (hOO : O < 6) (hi6 : ((i + k : Nat) : Int) ≤ h 123 T) (hj6 : ((j + k : Nat) : Int) ≤ h 123 O) : SIM τ (hf_ (hf_ (hf_ h (69 + 2 * O + 1) j (j + k) (fun q => h (69 + 2 * T + 1) (i + (q - j)))) 125 0 k (fun q => hf_ h (69 + 2 * O + 1) j (j + k) (fun q => h (69 + 2 * T + 1) (i + (q - j))) 124 (60 * T + i + q))) 124 (60 * O + j) (60 * O + j + k) (fun q => hf_ h (69 + 2 * O + 1) j (j + k) (fun q => h (69 + 2 * T + 1) (i + (q - j))) 124 (60 * T + i + (q - (60 * O + j))))) := by
  obtain ⟨hT, x, y⟩ := s
  have i60 := x.si_ T hTT
  have j60 := x.si_ O hOO
  generalize hH : (hf_ (hf_ (hf_ h (69 + 2 * O + 1) j (j + k) (fun q => h (69 + 2 * T + 1) (i + (q - j)))) 125 0 k (fun q => hf_ h (69 + 2 * O + 1) j (j + k) (fun q => h (69 + 2 * T + 1) (i + (q - j))) 124 (60 * T + i + q))) 124 (60 * O + j) (60 * O + j + k) (fun q => hf_ h (69 + 2 * O + 1) j (j + k) (fun q => h (69 + 2 * T + 1) (i + (q - j))) 124 (60 * T + i + (q - (60 * O + j))))) = H
  have o81_0 : H 81 0 = h 81 0 := by rw [← hH]; simp only [hs_, hf_]; (repeat (first | rfl | rw [if_neg (by omega)]))
  have o81_1 : H 81 1 = h 81 1 := by rw [← hH]; simp only [hs_, hf_]; (repeat (first | rfl | rw [if_neg (by omega)]))
  have o81_11 : H 81 11 = h 81 11 := by rw [← hH]; simp only [hs_, hf_]; (repeat (first | rfl | rw [if_neg (by omega)]))
  have o81_14 : H 81 14 = h 81 14 := by rw [← hH]; simp only [hs_, hf_]; (repeat (first | rfl | rw [if_neg (by omega)]))
  have o81_15 : H 81 15 = h 81 15 := by rw [← hH]; simp only [hs_, hf_]; (repeat (first | rfl | rw [if_neg (by omega)]))
  have o81_20 : H 81 20 = h 81 20 := by rw [← hH]; simp only [hs_, hf_]; (repeat (first | rfl | rw [if_neg (by omega)]))
  have o81_26 : H 81 26 = h 81 26 := by rw [← hH]; simp only [hs_, hf_]; (repeat (first | rfl | rw [if_neg (by omega)]))
  have o81_27 : H 81 27 = h 81 27 := by rw [← hH]; simp only [hs_, hf_]; (repeat (first | rfl | rw [if_neg (by omega)]))
  have o81_55 : H 81 55 = h 81 55 := by rw [← hH]; simp only [hs_, hf_]; (repeat (first | rfl | rw [if_neg (by omega)]))
  have q0_1 : H 0 1 = h 0 1 := by rw [← hH]; simp only [hs_, hf_]; (repeat (first | rfl | rw [if_neg (by omega)]))
  have q0_6 : H 0 6 = h 0 6 := by rw [← hH]; simp only [hs_, hf_]; (repeat (first | rfl | rw [if_neg (by omega)]))
  have q2_1 : H 2 1 = h 2 1 := by rw [← hH]; simp only [hs_, hf_]; (repeat (first | rfl | rw [if_neg (by omega)]))
  have q6_0 : H 6 0 = h 6 0 := by rw [← hH]; simp only [hs_, hf_]; (repeat (first | rfl | rw [if_neg (by omega)]))
  have q6_1 : H 6 1 = h 6 1 := by rw [← hH]; simp only [hs_, hf_]; (repeat (first | rfl | rw [if_neg (by omega)]))
  have q6_2 : H 6 2 = h 6 2 := by rw [← hH]; simp only [hs_, hf_]; (repeat (first | rfl | rw [if_neg (by omega)]))
  have q11_1 : H 11 1 = h 11 1 := by rw [← hH]; simp only [hs_, hf_]; (repeat (first | rfl | rw [if_neg (by omega)]))
  have q13_0 : H 13 0 = h 13 0 := by rw [← hH]; simp only [hs_, hf_]; (repeat (first | rfl | rw [if_neg (by omega)]))
  have q13_1 : H 13 1 = h 13 1 := by rw [← hH]; simp only [hs_, hf_]; (repeat (first | rfl | rw [if_neg (by omega)]))
  have q18_3 : H 18 3 = h 18 3 := by rw [← hH]; simp only [hs_, hf_]; (repeat (first | rfl | rw [if_neg (by omega)]))
  have q39_1 : H 39 1 = h 39 1 := by rw [← hH]; simp only [hs_, hf_]; (repeat (first | rfl | rw [if_neg (by omega)]))
  have q39_3 : H 39 3 = h 39 3 := by rw [← hH]; simp only [hs_, hf_]; (repeat (first | rfl | rw [if_neg (by omega)]))
  have o82 : ∀ k, H 82 k = h 82 k := fun k => by rw [← hH]; simp only [hs_, hf_]; (repeat (first | rfl | rw [if_neg (by omega)]))
  have o83 : ∀ k, H 83 k = h 83 k := fun k => by rw [← hH]; simp only [hs_, hf_]; (repeat (first | rfl | rw [if_neg (by omega)]))
  have o84 : ∀ k, H 84 k = h 84 k := fun k => by rw [← hH]; simp only [hs_, hf_]; (repeat (first | rfl | rw [if_neg (by omega)]))
  have o85 : ∀ k, H 85 k = h 85 k := fun k => by rw [← hH]; simp only [hs_, hf_]; (repeat (first | rfl | rw [if_neg (by omega)]))
  have o86 : ∀ k, H 86 k = h 86 k := fun k => by rw [← hH]; simp only [hs_, hf_]; (repeat (first | rfl | rw [if_neg (by omega)]))
  have o87 : ∀ k, H 87 k = h 87 k := fun k => by rw [← hH]; simp only [hs_, hf_]; (repeat (first | rfl | rw [if_neg (by omega)]))
  have o88 : ∀ k, H 88 k = h 88 k := fun k => by rw [← hH]; simp only [hs_, hf_]; (repeat (first | rfl | rw [if_neg (by omega)]))
  have o89 : ∀ k, H 89 k = h 89 k := fun k => by rw [← hH]; simp only [hs_, hf_]; (repeat (first | rfl | rw [if_neg (by omega)]))
  have o90 : ∀ k, H 90 k = h 90 k := fun k => by rw [← hH]; simp only [hs_, hf_]; (repeat (first | rfl | rw [if_neg (by omega)]))
  have o93 : ∀ k, H 93 k = h 93 k := fun k => by rw [← hH]; simp only [hs_, hf_]; (repeat (first | rfl | rw [if_neg (by omega)]))
  have o94 : ∀ k, H 94 k = h 94 k := fun k => by rw [← hH]; simp only [hs_, hf_]; (repeat (first | rfl | rw [if_neg (by omega)]))
  have o95 : ∀ k, H 95 k = h 95 k := fun k => by rw [← hH]; simp only [hs_, hf_]; (repeat (first | rfl | rw [if_neg (by omega)]))
  have o96 : ∀ k, H 96 k = h 96 k := fun k => by rw [← hH]; simp only [hs_, hf_]; (repeat (first | rfl | rw [if_neg (by omega)]))
  have o97 : ∀ k, H 97 k = h 97 k := fun k => by rw [← hH]; simp only [hs_, hf_]; (repeat (first | rfl | rw [if_neg (by omega)]))
  have o98 : ∀ k, H 98 k = h 98 k := fun k => by rw [← hH]; simp only [hs_, hf_]; (repeat (first | rfl | rw [if_neg (by omega)]))
  have o99 : ∀ k, H 99 k = h 99 k := fun k => by rw [← hH]; simp only [hs_, hf_]; (repeat (first | rfl | rw [if_neg (by omega)]))
  have o102 : ∀ k, H 102 k = h 102 k := fun k => by rw [← hH]; simp only [hs_, hf_]; (repeat (first | rfl | rw [if_neg (by omega)]))
  have o103 : ∀ k, H 103 k = h 103 k := fun k => by rw [← hH]; simp only [hs_, hf_]; (repeat (first | rfl | rw [if_neg (by omega)]))
  have o104 : ∀ k, H 104 k = h 104 k := fun k => by rw [← hH]; simp only [hs_, hf_]; (repeat (first | rfl | rw [if_neg (by omega)]))
  have o122 : ∀ k, H 122 k = h 122 k := fun k => by rw [← hH]; simp only [hs_, hf_]; (repeat (first | rfl | rw [if_neg (by omega)]))
  have o123 : ∀ k, H 123 k = h 123 k := fun k => by rw [← hH]; simp only [hs_, hf_]; (repeat (first | rfl | rw [if_neg (by omega)]))
  have o3 : ∀ k, H 3 k = h 3 k := fun k => by rw [← hH]; simp only [hs_, hf_]; (repeat (first | rfl | rw [if_neg (by omega)]))
  have o4 : ∀ k, H 4 k = h 4 k := fun k => by rw [← hH]; simp only [hs_, hf_]; (repeat (first | rfl | rw [if_neg (by omega)]))
  have o5 : ∀ k, H 5 k = h 5 k := fun k => by rw [← hH]; simp only [hs_, hf_]; (repeat (first | rfl | rw [if_neg (by omega)]))
  have o7 : ∀ k, H 7 k = h 7 k := fun k => by rw [← hH]; simp only [hs_, hf_]; (repeat (first | rfl | rw [if_neg (by omega)]))
  have o8 : ∀ k, H 8 k = h 8 k := fun k => by rw [← hH]; simp only [hs_, hf_]; (repeat (first | rfl | rw [if_neg (by omega)]))
  have o9 : ∀ k, H 9 k = h 9 k := fun k => by rw [← hH]; simp only [hs_, hf_]; (repeat (first | rfl | rw [if_neg (by omega)]))
  have o12 : ∀ k, H 12 k = h 12 k := fun k => by rw [← hH]; simp only [hs_, hf_]; (repeat (first | rfl | rw [if_neg (by omega)]))
  have o14 : ∀ k, H 14 k = h 14 k := fun k => by rw [← hH]; simp only [hs_, hf_]; (repeat (first | rfl | rw [if_neg (by omega)]))
  have o15 : ∀ k, H 15 k = h 15 k := fun k => by rw [← hH]; simp only [hs_, hf_]; (repeat (first | rfl | rw [if_neg (by omega)]))
  have o16 : ∀ k, H 16 k = h 16 k := fun k => by rw [← hH]; simp only [hs_, hf_]; (repeat (first | rfl | rw [if_neg (by omega)]))
  have o17 : ∀ k, H 17 k = h 17 k := fun k => by rw [← hH]; simp only [hs_, hf_]; (repeat (first | rfl | rw [if_neg (by omega)]))
  have o19 : ∀ k, H 19 k = h 19 k := fun k => by rw [← hH]; simp only [hs_, hf_]; (repeat (first | rfl | rw [if_neg (by omega)]))
  have o20 : ∀ k, H 20 k = h 20 k := fun k => by rw [← hH]; simp only [hs_, hf_]; (repeat (first | rfl | rw [if_neg (by omega)]))
  have o21 : ∀ k, H 21 k = h 21 k := fun k => by rw [← hH]; simp only [hs_, hf_]; (repeat (first | rfl | rw [if_neg (by omega)]))
  have o41 : ∀ k, H 41 k = h 41 k := fun k => by rw [← hH]; simp only [hs_, hf_]; (repeat (first | rfl | rw [if_neg (by omega)]))
  have o121 : ∀ k, H 121 k = h 121 k := fun k => by rw [← hH]; simp only [hs_, hf_]; (repeat (first | rfl | rw [if_neg (by omega)]))
  have o100 : ∀ k, H 100 k = h 100 k := fun k => by rw [← hH]; simp only [hs_, hf_]; (repeat (first | rfl | rw [if_neg (by omega)]))
  have hbig : ∀ a k : Nat, 126 ≤ a → H a k = h a k := fun a k ha => by rw [← hH]; simp only [hs_, hf_]; (repeat (first | rfl | rw [if_neg (by omega)]))
  have hst : ∀ a k : Nat, 24 ≤ a → a ≤ 27 → H a k = h a k := fun a k ha hb => by rw [← hH]; simp only [hs_, hf_]; (repeat (first | rfl | rw [if_neg (by omega)]))
  refine ⟨hT, ⟨?_, ?_, ?_, ?_, ?_, ?_, ?_, ?_, ?_, ?_, ?_, ?_, ?_, ?_, ?_, ?_, ?_, ?_, ?_, ?_, ?_, ?_, ?_, ?_, ?_, ?_, ?_, ?_, ?_, ?_, ?_, ?_⟩, ⟨?_, ?_, ?_, ?_, ?_, ?_, ?_, ?_, ?_, ?_, ?_, ?_, ?_, ?_, ?_, ?_, ?_, ?_, ?_, ?_, ?_, ?_, ?_, ?_, ?_, ?_, ?_, ?_, ?_⟩⟩
  · simp only [o81_0]; exact x.p_
  · simp only [o81_1]; exact x.n_
  · simp only [o81_1, o81_11]; exact x.d_
  · simp only [o81_1, o81_14]; exact x.s_
  · simp only [o81_1, o81_15]; exact x.r_
  · simp only [o81_20]; exact x.t_
  · simp only [o81_26]; exact x.f_
  · simp only [o81_27]; exact x.e_
  · simp only [o81_55]; exact x.a_
  · simp only [o82]; exact x.ki_
  · simp only [o83]; exact x.re_
  · simp only [o84]; exact x.pa_
  · simp only [o85]; exact x.wh_
  · simp only [o81_1, o86]; exact x.ha_
  · simp only [o81_1, o86]; exact x.hi_
  · simp only [o87]; exact x.co_
  · simp only [o88]; exact x.le_
  · simp only [o89]; exact x.be_
  · simp only [o90]; exact x.cc_
  · simp only [o81_1, o81_14, o93]; exact x.st_
  · simp only [o94]; exact x.mk_
  · simp only [o95]; exact x.cr_
  · simp only [o96]; exact x.cm_
  · simp only [o97]; exact x.t7_
  · simp only [o98]; exact x.t8_
  · simp only [o99]; exact x.t9_
  · simp only [o81_26, o102]; exact x.ma_
  · simp only [o81_26, o102, o103]; exact x.to_
  · simp only [o104]; exact x.tx_
  · simp only [o122]; exact x.so_
  · simp only [o123]; exact x.si_
  · intro q hq; rw [← hH]; have e1 := x.it_ q hq; simp only [hf_]; by_cases z : 60 * O + j ≤ q ∧ q < 60 * O + j + k; (rw [if_pos (by first | omega | trivial | exact ⟨by omega, trivial⟩ | exact ⟨trivial, trivial⟩ | (refine ⟨trivial, ?_⟩; omega) | (refine ⟨trivial, ?_, ?_⟩ <;> omega)), if_neg (by omega)]; exact x.it_ _ (by omega)); (rw [if_neg (by omega), if_neg (by omega), if_neg (by omega)]; exact e1)
  · simp only [o81_0, q0_1]; exact y.pc_
  · intro k hk; rw [o81_0] at hk; obtain ⟨o, p1, p2, p3, p4, p5, p6, p7⟩ := y.pe_ k hk; exact ⟨o, p1, p2, p3, by rw [hbig o 0 p2]; exact p4, by rw [hbig o 1 p2, o82]; exact p5, by rw [hbig o 2 p2, o83]; exact p6, by rw [hbig o 3 p2, o84]; exact p7⟩
  · simp only [o81_55, q2_1]; exact y.ra_
  · simp only [o3, o121]; exact y.tr_
  · simp only [o81_1, o85, o86, o4]; exact y.wh_
  · simp only [o4]; exact y.wr_
  · simp only [o87, o5]; exact y.co_
  · simp only [o81_1, o81_14, o81_15, q6_0, q6_1, q6_2]; exact y.fn_
  · simp only [o81_1, o86, o7]; exact y.or_
  · simp only [o81_1, o88, o8]; exact y.le_
  · simp only [o81_1, o94, o9]; exact y.mk_
  · simp only [o81_1, o81_11, q0_6]; exact y.da_
  · simp only [o81_1, o81_14, q11_1]; exact y.dc_
  · simp only [o81_1, o81_14, o93, o12]; exact y.dd_
  · simp only [o81_1, o81_15, q13_0, q13_1]; exact y.cn_
  · intro r p hr hp; rw [o81_15] at hr; rw [o81_1] at hp; rw [o14, o15, o16, o95, o96, f_top_k o81_1 o95 o96]; exact y.cl_ r p hr hp
  · simp only [o14, o15]; exact y.cr_
  · simp only [o17]; exact y.cc_
  · simp only [o81_1, o81_11, o81_15, o90, o17]; exact y.ce_
  · simp only [o81_20, q18_3, o97, o98, o99, o19, o20, o21]; exact y.pi_
  · intro hd; rw [o81_11] at hd; rw [o81_1, show t_0 H = t_0 h from by unfold t_0; rw [show H 89 = h 89 from funext o89]]; exact (y.sf_ hd).fr (fun b j b1 b2 => hst b j (by omega) (by omega))
  · rw [o81_26]; exact (y.fg_.fr q39_1 hbig).cg (fun f hf => figL_c (o102 f) (fun k hk => o103 _))
  · simp only [o81_27, q39_3, o104, o41]; exact y.tx_
  · intro t ht
    have e := y.tp_ t ht
    have t60 := x.si_ t ht
    rw [← hH]
    refine ⟨?_, ?_, fun q hq => ?_⟩
    · simp only [hf_]; (repeat rw [if_neg (by omega)]); exact e.1
    · simp only [hf_]; (repeat rw [if_neg (by omega)]); exact e.2.1
    · have hj2 : (q : Int) < h 123 t := by
        simp only [hf_] at hq; (repeat rw [if_neg (by omega)] at hq); exact hq
      by_cases z : t = O ∧ j ≤ q ∧ q < j + k
      · obtain ⟨rfl, z1, z2⟩ := z
        simp only [hf_]; rw [if_neg (by omega), if_neg (by omega), if_pos (by first | omega | trivial | exact ⟨by omega, trivial⟩ | exact ⟨trivial, trivial⟩ | (refine ⟨trivial, ?_⟩; omega) | (refine ⟨trivial, ?_, ?_⟩ <;> omega)), if_pos (by first | omega | trivial | exact ⟨by omega, trivial⟩ | exact ⟨trivial, trivial⟩ | (refine ⟨trivial, ?_⟩; omega) | (refine ⟨trivial, ?_, ?_⟩ <;> omega)), if_neg (by omega)]
        have e3 := (y.tp_ T hTT).2.2 (i + (q - j)) (by omega)
        rw [show 69 + 2 * T + 1 = 70 + 2 * T by omega, e3]; congr 1; omega
      · simp only [hf_]; rw [if_neg (by omega), if_neg (by omega), if_neg (by omega), if_neg (by omega), if_neg (by omega), if_neg (by omega)]; exact e.2.2 q hj2
  · simp only [o81_1, o81_11, o86]; exact y.nd_
  · simp only [o122, o123]; exact y.sn_
  · intro r p hr hp; rw [o81_15] at hr; rw [o81_1] at hp ⊢; rw [o95]; exact y.ok_ r p hr hp
  · simp only [o100]; exact y.gs_
  · rw [o81_0, o81_26]; exact y.sz_
theorem op_shift {τ : TT} {h : HT} (s : SIM τ h) (t i o j k : Int) (r_t : -2147483648 ≤ t ∧ t ≤ 2147483647) (r_i : -2147483648 ≤ i ∧ i ≤ 2147483647) (r_o : -2147483648 ≤ o ∧ o ≤ 2147483647) (r_j : -2147483648 ≤ j ∧ j ≤ 2147483647) (r_k : -2147483648 ≤ k ∧ k ≤ 2147483647) : OPS mX11_shift mX12_shift 20 0 0 [.inl t, .inl i, .inl o, .inl j, .inl k] τ h := by
  have s0 := s
  obtain ⟨hT, x, y⟩ := s
  have n9 := x.n9
  have d1 := x.d1
  have n_ := x.n_
  have fn := y.fn_
  have da := y.da_
  have tf : (0 ≤ t ∧ t < 6) → h (69 + 2 * t.toNat) 0 = h 122 t.toNat ∧ h (69 + 2 * t.toNat) 1 = h 123 t.toNat := fun q => ⟨(y.tp_ t.toNat (by omega)).1, (y.tp_ t.toNat (by omega)).2.1⟩
  have so : (0 ≤ t ∧ t < 6) → (-1 ≤ h 122 t.toNat ∧ h 122 t.toNat ≤ 4) ∧ (0 ≤ h 123 t.toNat ∧ h 123 t.toNat ≤ 60) := fun q => ⟨x.so_ t.toNat (by omega), x.si_ t.toNat (by omega)⟩
  have tfo : (0 ≤ o ∧ o < 6) → h (69 + 2 * o.toNat) 0 = h 122 o.toNat ∧ h (69 + 2 * o.toNat) 1 = h 123 o.toNat := fun q => ⟨(y.tp_ o.toNat (by omega)).1, (y.tp_ o.toNat (by omega)).2.1⟩
  have soo : (0 ≤ o ∧ o < 6) → (-1 ≤ h 122 o.toNat ∧ h 122 o.toNat ≤ 4) ∧ (0 ≤ h 123 o.toNat ∧ h 123 o.toNat ≤ 60) := fun q => ⟨x.so_ o.toNat (by omega), x.si_ o.toNat (by omega)⟩
  refine OPS_f x (x_shift h t i o j k) (fun g => f_shift g t i o j k) (fun d => x_shiftM (d + 19) τ h hT x y t i o j k r_t r_i r_o r_j r_k) (fun a i z1 z2 => by unfold x_shift; (repeat (first | rfl | (apply (apply_ite (fun z : Int × HT => z.2 a i) _ _ _).trans; split))); all_goals (simp only [hs_, hf_]; (repeat (first | rfl | rw [if_neg (by omega)])))) (fun d x1 => m_shift (d + 18) τ _ hT t i o j k r_t r_i r_o r_j r_k x1.so_ x1.si_) ?_
  show (f_shift (x_shift h t i o j k).2 t i o j k).1 = (x_shift h t i o j k).1 ∧ SIM τ (f_shift (x_shift h t i o j k).2 t i o j k).2
  unfold x_shift
  by_cases g1 : ¬ ((0 ≤ t ∧ t < 6) ∧ (0 ≤ o ∧ o < 6))
  · rw [if_pos g1]; show (f_shift h t i o j k).1 = _ ∧ SIM τ (f_shift h t i o j k).2; unfold f_shift; rw [if_pos (by omega)]; exact ⟨rfl, s0⟩
  rw [if_neg g1]
  have tf := tf (by omega)
  have so := so (by omega)
  have tfo := tfo (by omega)
  have soo := soo (by omega)
  by_cases g2 : h (69 + 2 * t.toNat) 0 = -1 ∨ h (69 + 2 * o.toNat) 0 = -1
  · rw [if_pos g2]; show (f_shift h t i o j k).1 = _ ∧ SIM τ (f_shift h t i o j k).2; unfold f_shift; rw [if_neg (by omega), if_pos (by omega)]; exact ⟨rfl, s0⟩
  rw [if_neg g2]
  by_cases g3 : ¬ h (69 + 2 * t.toNat) 0 = h (69 + 2 * o.toNat) 0
  · rw [if_pos g3]; show (f_shift h t i o j k).1 = _ ∧ SIM τ (f_shift h t i o j k).2; unfold f_shift; rw [if_neg (by omega), if_neg (by omega), if_pos (by omega)]; exact ⟨rfl, s0⟩
  rw [if_neg g3]
  by_cases g4 : ¬ ((0 ≤ k ∧ 0 ≤ i ∧ k ≤ h (69 + 2 * t.toNat) 1 ∧ i ≤ h (69 + 2 * t.toNat) 1 - k) ∧ (0 ≤ k ∧ 0 ≤ j ∧ k ≤ h (69 + 2 * o.toNat) 1 ∧ j ≤ h (69 + 2 * o.toNat) 1 - k))
  · rw [if_pos g4]; show (f_shift h t i o j k).1 = _ ∧ SIM τ (f_shift h t i o j k).2; unfold f_shift; rw [if_neg (by omega), if_neg (by omega), if_neg (by omega), if_pos (by omega)]; exact ⟨rfl, s0⟩
  rw [if_neg g4]
  show (f_shift (hf_ h (69 + 2 * o.toNat + 1) j.toNat (j.toNat + k.toNat) (fun q => h (69 + 2 * t.toNat + 1) (i.toNat + (q - j.toNat)))) t i o j k).1 = k ∧ SIM τ (f_shift (hf_ h (69 + 2 * o.toNat + 1) j.toNat (j.toNat + k.toNat) (fun q => h (69 + 2 * t.toNat + 1) (i.toNat + (q - j.toNat)))) t i o j k).2
  have k1 : ∀ T, (hf_ h (69 + 2 * o.toNat + 1) j.toNat (j.toNat + k.toNat) (fun q => h (69 + 2 * t.toNat + 1) (i.toNat + (q - j.toNat)))) 122 T = h 122 T := fun T => hf_na (by omega)
  have k2 : ∀ T, (hf_ h (69 + 2 * o.toNat + 1) j.toNat (j.toNat + k.toNat) (fun q => h (69 + 2 * t.toNat + 1) (i.toNat + (q - j.toNat)))) 123 T = h 123 T := fun T => hf_na (by omega)
  unfold f_shift
  rw [if_neg (by omega), if_neg (by rw [k1, k1]; omega), if_neg (by rw [k1, k1]; omega), if_neg (by rw [k2, k2]; omega)]
  refine ⟨rfl, ?_⟩
  rw [show (60 * t + i).toNat = 60 * t.toNat + i.toNat by omega, show (60 * o + j).toNat = 60 * o.toNat + j.toNat by omega]
  exact SIM_shift s0 (by omega) (by omega) (by omega) (by omega)
