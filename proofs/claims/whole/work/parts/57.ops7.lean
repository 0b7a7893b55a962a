/-! operations: the ring, a dance begins and ends -/
def x_rg1 (h : HT) (n : Int) : HT := hs_ (hf_ (hf_ (x_lay h 6 n) 4 0 9 (fun _ => -5)) 5 0 9 (fun _ => 0)) 11 1 0
def x_rg (h : HT) (n : Int) : HT := hf_ (hs_ (hs_ (x_rg1 h n) 13 0 n) 13 1 0) 17 0 9 (x_rg1 h n 5)
def x_ring (h : HT) (n : Int) : Int × HT := if ¬ (3 ≤ n ∧ n ≤ 9) then (-2, h) else if h 0 6 ≠ 0 then (-3, h) else (1, x_rg h n)
theorem x_rg_o {h : HT} {n : Int} {a k : Nat} (q : ¬ (4 ≤ a ∧ a ≤ 9) ∧ a ≠ 11 ∧ a ≠ 13 ∧ a ≠ 17) : x_rg h n a k = h a k := by
  unfold x_rg x_rg1 x_lay x_rst x_unm x_cbp
  rw [hf_na (by omega), hs_na (by omega), hs_na (by omega), hs_na (by omega), hf_na (by omega), hf_na (by omega), hf_na (by omega), hf_na (by omega), hs_na (by omega), hs_na (by omega), hf_na (by omega), hs_na (by omega)]
theorem x_ringM (d : Nat) (τ : TT) (h : HT) (hT : TK τ) (x : MI h) (y : XR τ h) (n : Int) (r_n : -2147483648 ≤ n ∧ n ≤ 2147483647) : S_ mX11_ring (d + 4) 0 0 [.inr (some 0), .inl n] τ h (Zi τ fun v h' => v = (x_ring h n).1 ∧ h' = (x_ring h n).2) := by
  have n9 := x.n9
  have d1 := x.d1
  have n_ := x.n_
  have fn := y.fn_
  have da := y.da_
  have cn := y.cn_
  have r_r_ := x.r_
  have s_s_ := x.s_
  have dc := y.dc_
  have pc := y.pc_
  have pp := x.p_
  have fgc := y.fg_.1
  have f10 := x.f_
  have ra := y.ra_
  have a100 := x.a_
  have pic := y.pi_
  have t40 := x.t_
  have txx := y.tx_
  have e80 := x.e_
  refine S_go (k := 0) (ls := [some (.inr (some 0)), some (.inl n)]) (by decide) rfl (Nat.le_of_ble_eq_true rfl) rfl ?_
  refine G_iload_n (i := 1) dX11_ring_0 rfl rfl ?_
  refine G_iconst dX11_ring_1 ?_
  refine G_icmp_lt (tgt := 11) dX11_ring_2 (by decide) (by omega) (by decide) (fun c_1 => ?_) (fun c_1 => ?_)
  · refine G_bipush dX11_ring_11 (by decide) ?_
    refine G_iretZ rfl dX11_ring_13 ?_
    unfold x_ring; (repeat (first | rw [if_pos (by omega)] | rw [if_neg (by omega)])); exact ⟨rfl, rfl⟩
  · refine G_iload_n (i := 1) dX11_ring_5 rfl rfl ?_
    refine G_bipush dX11_ring_6 (by decide) ?_
    refine G_icmp_le (tgt := 14) dX11_ring_8 (by decide) (by omega) (by decide) (fun c_2 => ?_) (fun c_2 => ?_)
    · refine G_aload_n (i := 0) dX11_ring_14 rfl rfl ?_
      refine G_getI (v := h 0 6) fX11_40 rfl dX11_ring_15 (o0 hT) rfl ?_
      refine G_if_eq (tgt := 24) dX11_ring_18 (by decide) (by omega) (fun c_3 => ?_) (fun c_3 => ?_)
      · refine G_aload_n (i := 0) dX11_ring_24 rfl rfl ?_
        refine G_getR fX11_36 rfl dX11_ring_25 (o0 hT) (r0_5 hT) ?_
        refine G_iload_n (i := 1) dX11_ring_28 rfl rfl ?_
        refine G_cVv (as := [.inl n]) qX11_117 (x_layF d τ h 6 (fl6 hT) n) rfl rfl (Nat.le_of_ble_eq_true rfl) (o6 hT) dX11_ring_29 (fun h' e' => ?_)
        subst e'
        refine G_aload_n (i := 0) dX11_ring_32 rfl rfl ?_
        refine G_getR fX11_26 rfl dX11_ring_33 (o0 hT) (r0_3 hT) ?_
        refine G_bipush dX11_ring_36 (by decide) ?_
        refine G_cSv (as := [.inr (some 4), .inl (-5)]) qX11_120 (j_fill (d + 3) τ (x_lay h 6 n) 4 9 (o4 hT) (-5)) rfl rfl (Nat.le_of_ble_eq_true rfl) dX11_ring_38 (fun h' e' => ?_)
        subst e'
        refine G_aload_n (i := 0) dX11_ring_41 rfl rfl ?_
        refine G_getR fX11_30 rfl dX11_ring_42 (o0 hT) (r0_4 hT) ?_
        refine G_iconst dX11_ring_45 ?_
        refine G_cSv (as := [.inr (some 5), .inl 0]) qX11_120 (j_fill (d + 3) τ (hf_ (x_lay h 6 n) 4 0 9 (fun _ => (-5))) 5 9 (o5 hT) 0) rfl rfl (Nat.le_of_ble_eq_true rfl) dX11_ring_46 (fun h' e' => ?_)
        subst e'
        refine G_aload_n (i := 0) dX11_ring_49 rfl rfl ?_
        refine G_getR fX11_49 rfl dX11_ring_50 (o0 hT) (r0_7 hT) ?_
        refine G_cVv (as := []) qX11_126 (x_clear (d + 3) τ (hf_ (hf_ (x_lay h 6 n) 4 0 9 (fun _ => (-5))) 5 0 9 (fun _ => 0)) 11 300 (st11 hT)) rfl rfl (Nat.le_of_ble_eq_true rfl) (o11 hT) dX11_ring_53 (fun h' e' => ?_)
        subst e'
        refine G_aload_n (i := 0) dX11_ring_56 rfl rfl ?_
        refine G_getR fX11_56 rfl dX11_ring_57 (o0 hT) (r0_8 hT) ?_
        refine G_iload_n (i := 1) dX11_ring_60 rfl rfl ?_
        refine G_aload_n (i := 0) dX11_ring_61 rfl rfl ?_
        refine G_getR fX11_30 rfl dX11_ring_62 (o0 hT) (r0_4 hT) ?_
        refine G_cVv (as := [.inl n, .inr (some 5)]) qX11_129 (x_openC (d + 2) τ (hs_ (hf_ (hf_ (x_lay h 6 n) 4 0 9 (fun _ => (-5))) 5 0 9 (fun _ => 0)) 11 1 0) hT n) rfl rfl (Nat.le_of_ble_eq_true rfl) (o13 hT) dX11_ring_65 (fun h' e' => ?_)
        subst e'
        refine G_iconst dX11_ring_68 ?_
        refine G_iretZ rfl dX11_ring_69 ?_
        unfold x_ring; (repeat (first | rw [if_pos (by omega)] | rw [if_neg (by omega)])); exact ⟨rfl, rfl⟩
      · refine G_bipush dX11_ring_21 (by decide) ?_
        refine G_iretZ rfl dX11_ring_23 ?_
        unfold x_ring; (repeat (first | rw [if_pos (by omega)] | rw [if_neg (by omega)])); exact ⟨rfl, rfl⟩
    · refine G_bipush dX11_ring_11 (by decide) ?_
      refine G_iretZ rfl dX11_ring_13 ?_
      unfold x_ring; (repeat (first | rw [if_pos (by omega)] | rw [if_neg (by omega)])); exact ⟨rfl, rfl⟩

theorem ring_o {h : HT} {n : Int} {a k : Nat} (q : ¬ (4 ≤ a ∧ a ≤ 9) ∧ a ≠ 11 ∧ a ≠ 13 ∧ a ≠ 17 ∧ a ≠ 85 ∧ a ≠ 86 ∧ a ≠ 87 ∧ a ≠ 88 ∧ a ≠ 94 ∧ ¬ (a = 81 ∧ (k = 1 ∨ k = 14 ∨ k = 15))) : (f_ringL (hs_ (hs_ (hs_ (x_rg h n) 81 1 n) 81 14 0) 81 15 0) 9) a k = h a k := by
  obtain ⟨q1, q2, q3, q4, q5, q6, q7, q8, q9, q10⟩ := q
  have e : (f_ringL (hs_ (hs_ (hs_ (x_rg h n) 81 1 n) 81 14 0) 81 15 0) 9) a k = hs_ (hs_ (hs_ (x_rg h n) 81 1 n) 81 14 0) 81 15 0 a k := by
    unfold f_ringL
    by_cases z : k < 9
    · rw [if_pos z, if_neg q5, if_neg q6, if_neg (by omega)]
    · rw [if_neg z]
  rw [e]
  unfold hs_
  rw [if_neg (by omega), if_neg (by omega), if_neg (by omega)]
  exact x_rg_o ⟨q1, q2, q3, q4⟩
theorem ring_v {h : HT} {n : Int} (j : Nat) (hj : j < 9) : let H := (f_ringL (hs_ (hs_ (hs_ (x_rg h n) 81 1 n) 81 14 0) 81 15 0) 9); H 85 j = -5 ∧ H 86 j = (j : Int) ∧ H 87 j = 0 ∧ H 88 j = 0 ∧ H 94 j = 0 ∧ H 4 j = -5 ∧ H 5 j = 0 ∧ H 7 j = (j : Int) ∧ H 8 j = 0 ∧ H 9 j = 0 ∧ H 17 j = 0 := by
  simp [f_ringL, x_rg, x_rg1, x_lay, x_rst, x_unm, x_cbp, hs_, hf_, hj]
theorem ring_f {h : HT} {n : Int} : let H := (f_ringL (hs_ (hs_ (hs_ (x_rg h n) 81 1 n) 81 14 0) 81 15 0) 9); H 81 1 = n ∧ H 81 14 = 0 ∧ H 81 15 = 0 ∧ H 6 0 = n ∧ H 6 1 = 0 ∧ H 6 2 = 0 ∧ H 11 1 = 0 ∧ H 13 0 = n ∧ H 13 1 = 0 := by
  simp [f_ringL, x_rg, x_rg1, x_lay, x_rst, x_unm, x_cbp, hs_, hf_]
theorem SIM_ring {τ : TT} {h : HT} (s : SIM τ h) {n : Int} (hn : 3 ≤ n ∧ n ≤ 9) (hd : h 81 11 = 0) : SIM τ (f_ringL (hs_ (hs_ (hs_ (x_rg h n) 81 1 n) 81 14 0) 81 15 0) 9) := by
  obtain ⟨hT, x, y⟩ := s
  have rv := fun j hj => ring_v (h := h) (n := n) j hj
  have rff := ring_f (h := h) (n := n)
  generalize hH : (f_ringL (hs_ (hs_ (hs_ (x_rg h n) 81 1 n) 81 14 0) 81 15 0) 9) = H
  have o81_0 : H 81 0 = h 81 0 := by rw [← hH]; exact ring_o (by omega)
  have o81_11 : H 81 11 = h 81 11 := by rw [← hH]; exact ring_o (by omega)
  have o81_20 : H 81 20 = h 81 20 := by rw [← hH]; exact ring_o (by omega)
  have o81_26 : H 81 26 = h 81 26 := by rw [← hH]; exact ring_o (by omega)
  have o81_27 : H 81 27 = h 81 27 := by rw [← hH]; exact ring_o (by omega)
  have o81_55 : H 81 55 = h 81 55 := by rw [← hH]; exact ring_o (by omega)
  have q0_1 : H 0 1 = h 0 1 := by rw [← hH]; exact ring_o (by omega)
  have q0_6 : H 0 6 = h 0 6 := by rw [← hH]; exact ring_o (by omega)
  have q2_1 : H 2 1 = h 2 1 := by rw [← hH]; exact ring_o (by omega)
  have q18_3 : H 18 3 = h 18 3 := by rw [← hH]; exact ring_o (by omega)
  have q39_1 : H 39 1 = h 39 1 := by rw [← hH]; exact ring_o (by omega)
  have q39_3 : H 39 3 = h 39 3 := by rw [← hH]; exact ring_o (by omega)
  have o82 : ∀ k, H 82 k = h 82 k := fun k => by rw [← hH]; exact ring_o (by omega)
  have o83 : ∀ k, H 83 k = h 83 k := fun k => by rw [← hH]; exact ring_o (by omega)
  have o84 : ∀ k, H 84 k = h 84 k := fun k => by rw [← hH]; exact ring_o (by omega)
  have o89 : ∀ k, H 89 k = h 89 k := fun k => by rw [← hH]; exact ring_o (by omega)
  have o90 : ∀ k, H 90 k = h 90 k := fun k => by rw [← hH]; exact ring_o (by omega)
  have o93 : ∀ k, H 93 k = h 93 k := fun k => by rw [← hH]; exact ring_o (by omega)
  have o95 : ∀ k, H 95 k = h 95 k := fun k => by rw [← hH]; exact ring_o (by omega)
  have o96 : ∀ k, H 96 k = h 96 k := fun k => by rw [← hH]; exact ring_o (by omega)
  have o97 : ∀ k, H 97 k = h 97 k := fun k => by rw [← hH]; exact ring_o (by omega)
  have o98 : ∀ k, H 98 k = h 98 k := fun k => by rw [← hH]; exact ring_o (by omega)
  have o99 : ∀ k, H 99 k = h 99 k := fun k => by rw [← hH]; exact ring_o (by omega)
  have o102 : ∀ k, H 102 k = h 102 k := fun k => by rw [← hH]; exact ring_o (by omega)
  have o103 : ∀ k, H 103 k = h 103 k := fun k => by rw [← hH]; exact ring_o (by omega)
  have o104 : ∀ k, H 104 k = h 104 k := fun k => by rw [← hH]; exact ring_o (by omega)
  have o122 : ∀ k, H 122 k = h 122 k := fun k => by rw [← hH]; exact ring_o (by omega)
  have o123 : ∀ k, H 123 k = h 123 k := fun k => by rw [← hH]; exact ring_o (by omega)
  have o124 : ∀ k, H 124 k = h 124 k := fun k => by rw [← hH]; exact ring_o (by omega)
  have o3 : ∀ k, H 3 k = h 3 k := fun k => by rw [← hH]; exact ring_o (by omega)
  have o12 : ∀ k, H 12 k = h 12 k := fun k => by rw [← hH]; exact ring_o (by omega)
  have o14 : ∀ k, H 14 k = h 14 k := fun k => by rw [← hH]; exact ring_o (by omega)
  have o15 : ∀ k, H 15 k = h 15 k := fun k => by rw [← hH]; exact ring_o (by omega)
  have o16 : ∀ k, H 16 k = h 16 k := fun k => by rw [← hH]; exact ring_o (by omega)
  have o19 : ∀ k, H 19 k = h 19 k := fun k => by rw [← hH]; exact ring_o (by omega)
  have o20 : ∀ k, H 20 k = h 20 k := fun k => by rw [← hH]; exact ring_o (by omega)
  have o21 : ∀ k, H 21 k = h 21 k := fun k => by rw [← hH]; exact ring_o (by omega)
  have o41 : ∀ k, H 41 k = h 41 k := fun k => by rw [← hH]; exact ring_o (by omega)
  have o121 : ∀ k, H 121 k = h 121 k := fun k => by rw [← hH]; exact ring_o (by omega)
  have o100 : ∀ k, H 100 k = h 100 k := fun k => by rw [← hH]; exact ring_o (by omega)
  have hbig : ∀ a k : Nat, 126 ≤ a → H a k = h a k := fun a k ha => by rw [← hH]; exact ring_o (by omega)
  have hst : ∀ a k : Nat, 24 ≤ a → a ≤ 27 → H a k = h a k := fun a k ha hb => by rw [← hH]; exact ring_o (by omega)
  have htp : ∀ a k : Nat, 69 ≤ a → a ≤ 80 → H a k = h a k := fun a k ha hb => by rw [← hH]; exact ring_o (by omega)
  refine ⟨hT, ⟨?_, ?_, ?_, ?_, ?_, ?_, ?_, ?_, ?_, ?_, ?_, ?_, ?_, ?_, ?_, ?_, ?_, ?_, ?_, ?_, ?_, ?_, ?_, ?_, ?_, ?_, ?_, ?_, ?_, ?_, ?_, ?_⟩, ⟨?_, ?_, ?_, ?_, ?_, ?_, ?_, ?_, ?_, ?_, ?_, ?_, ?_, ?_, ?_, ?_, ?_, ?_, ?_, ?_, ?_, ?_, ?_, ?_, ?_, ?_, ?_, ?_, ?_⟩⟩
  · simp only [o81_0]; exact x.p_
  · rw [← hH, rff.1]; omega
  · left; rw [o81_11]; exact hd
  · rw [← hH, rff.2.1]; omega
  · rw [← hH, rff.2.2.1]; omega
  · simp only [o81_20]; exact x.t_
  · simp only [o81_26]; exact x.f_
  · simp only [o81_27]; exact x.e_
  · simp only [o81_55]; exact x.a_
  · simp only [o82]; exact x.ki_
  · simp only [o83]; exact x.re_
  · simp only [o84]; exact x.pa_
  · intro k hk; rw [← hH, (rv k hk).1]; omega
  · intro k hk; rw [← hH] at hk ⊢; rw [rff.1] at hk ⊢; rw [(rv k (by omega)).2.1]; omega
  · intro j k hj hk; rw [← hH] at hj hk ⊢; rw [rff.1] at hj hk; rw [(rv j (by omega)).2.1, (rv k (by omega)).2.1]; omega
  · intro k hk; rw [← hH, (rv k hk).2.2.1]; omega
  · intro k hk; rw [← hH, (rv k hk).2.2.2.1]; omega
  · simp only [o89]; exact x.be_
  · simp only [o90]; exact x.cc_
  · intro k hk; rw [← hH, rff.2.1] at hk; omega
  · intro k hk; rw [← hH, (rv k hk).2.2.2.2.1]; omega
  · simp only [o95]; exact x.cr_
  · simp only [o96]; exact x.cm_
  · simp only [o97]; exact x.t7_
  · simp only [o98]; exact x.t8_
  · simp only [o99]; exact x.t9_
  · simp only [o81_26, o102]; exact x.ma_
  · simp only [o81_26, o102, o103]; exact x.to_
  · simp only [o104]; exact x.tx_
  · simp only [o122]; exact x.so_
  · simp only [o123]; exact x.si_
  · simp only [o124]; exact x.it_
  · simp only [o81_0, q0_1]; exact y.pc_
  · intro k hk; rw [o81_0] at hk; obtain ⟨o, p1, p2, p3, p4, p5, p6, p7⟩ := y.pe_ k hk; exact ⟨o, p1, p2, p3, by rw [hbig o 0 p2]; exact p4, by rw [hbig o 1 p2, o82]; exact p5, by rw [hbig o 2 p2, o83]; exact p6, by rw [hbig o 3 p2, o84]; exact p7⟩
  · simp only [o81_55, q2_1]; exact y.ra_
  · simp only [o3, o121]; exact y.tr_
  · intro p hp; rw [← hH] at hp ⊢; rw [rff.1] at hp; rw [(rv p (by omega)).1, (rv p (by omega)).2.1, Int.toNat_natCast, (rv p (by omega)).2.2.2.2.2.1]
  · intro k hk; rw [← hH, (rv k hk).2.2.2.2.2.1]; omega
  · intro k hk; rw [← hH, (rv k hk).2.2.1, (rv k hk).2.2.2.2.2.2.1]
  · rw [← hH]; obtain ⟨a1, a2, a3, a4, a5, a6, -⟩ := rff; rw [a1, a2, a3, a4, a5, a6]; exact ⟨rfl, rfl, rfl⟩
  · intro p hp; rw [← hH] at hp ⊢; rw [rff.1] at hp; rw [(rv p (by omega)).2.1, (rv p (by omega)).2.2.2.2.2.2.2.1]
  · intro k hk; rw [← hH] at hk ⊢; rw [rff.1] at hk; rw [(rv k (by omega)).2.2.2.1, (rv k (by omega)).2.2.2.2.2.2.2.2.1]
  · intro p hp; rw [← hH] at hp ⊢; rw [rff.1] at hp; rw [(rv p (by omega)).2.2.2.2.1, (rv p (by omega)).2.2.2.2.2.2.2.2.2.1]
  · simp only [o81_11, q0_6]; exact y.da_
  · rw [← hH, rff.2.1, rff.2.2.2.2.2.2.1]
  · intro k hk; rw [← hH, rff.2.1] at hk; omega
  · rw [← hH]; obtain ⟨a1, a2, a3, a4, a5, a6, a7, a8, a9⟩ := rff; rw [a1, a3, a8, a9]; exact ⟨rfl, rfl⟩
  · intro r p hr; rw [← hH, rff.2.2.1] at hr; omega
  · simp only [o14, o15]; exact y.cr_
  · intro k hk; rw [← hH, (rv k hk).2.2.2.2.2.2.2.2.2.2]; omega
  · intro q; rw [o81_11] at q; rw [← hH, rff.2.2.1] at q; omega
  · simp only [o81_20, q18_3, o97, o98, o99, o19, o20, o21]; exact y.pi_
  · intro q; rw [o81_11] at q; exact absurd hd q
  · rw [o81_26]; exact (y.fg_.fr q39_1 hbig).cg (fun f hf => figL_c (o102 f) (fun k hk => o103 _))
  · simp only [o81_27, q39_3, o104, o41]; exact y.tx_
  · intro t ht; have := y.tp_ t ht; rw [htp (69 + 2 * t) 0 (by omega) (by omega), htp (69 + 2 * t) 1 (by omega) (by omega), o122, o123]; refine ⟨this.1, this.2.1, fun i hi => ?_⟩; rw [htp (70 + 2 * t) i (by omega) (by omega), o124]; exact this.2.2 i hi
  · intro q p hp; rw [← hH] at hp ⊢; rw [rff.1] at hp; exact (rv p (by omega)).2.1
  · simp only [o122, o123]; exact y.sn_
  · intro r p hr; rw [← hH, rff.2.2.1] at hr; omega
  · simp only [o100]; exact y.gs_
  · rw [o81_0, o81_26]; exact y.sz_
theorem op_ring {τ : TT} {h : HT} (s : SIM τ h) (n : Int) (r_n : -2147483648 ≤ n ∧ n ≤ 2147483647) : OPS mX11_ring mX12_ring 20 0 0 [.inl n] τ h := by
  have s0 := s
  obtain ⟨hT, x, y⟩ := s
  have n9 := x.n9
  have d1 := x.d1
  have n_ := x.n_
  have fn := y.fn_
  have da := y.da_
  refine OPS_f x (x_ring h n) (fun g => f_ring g n) (fun d => x_ringM (d + 16) τ h hT x y n r_n) (fun a i z1 z2 => by unfold x_ring; (repeat (first | rfl | (apply (apply_ite (fun z : Int × HT => z.2 a i) _ _ _).trans; split))); exact x_rg_o (by omega)) (fun d x1 => m_ring (d + 19) τ _ hT n r_n x1.d1) ?_
  show (f_ring (x_ring h n).2 n).1 = (x_ring h n).1 ∧ SIM τ (f_ring (x_ring h n).2 n).2
  unfold x_ring
  by_cases g1 : ¬ (3 ≤ n ∧ n ≤ 9)
  · rw [if_pos g1]; show (f_ring h n).1 = _ ∧ SIM τ (f_ring h n).2; unfold f_ring; rw [if_pos (by exact g1)]; exact ⟨rfl, s0⟩
  rw [if_neg g1]
  by_cases g2 : h 0 6 ≠ 0
  · rw [if_pos g2]; show (f_ring h n).1 = _ ∧ SIM τ (f_ring h n).2; unfold f_ring; rw [if_neg (by exact g1), if_pos (by omega)]; exact ⟨rfl, s0⟩
  rw [if_neg g2]
  show (f_ring (x_rg h n) n).1 = 1 ∧ SIM τ (f_ring (x_rg h n) n).2
  have k1 : x_rg h n 81 11 = h 81 11 := x_rg_o (by decide)
  unfold f_ring
  rw [if_neg g1, if_neg (by rw [k1]; omega)]
  exact ⟨rfl, SIM_ring s0 (by omega) (by omega)⟩
def x_b1 (h : HT) : HT := hs_ (x_rst h 6) 11 1 0
def x_b2 (h : HT) : HT := hf_ (hs_ (hs_ (x_b1 h) 13 0 (h 6 0)) 13 1 0) 17 0 9 (x_b1 h 5)
def x_bg (h : HT) : HT := hs_ (x_cpy (x_b2 h) 24 6) 0 6 1
def x_begin (h : HT) : Int × HT := if h 81 11 ≠ 0 ∨ h 81 1 = 0 then (-3, h) else if ∃ k, k < (h 81 1).toNat ∧ h 85 k = -5 then (-3, h) else (h 81 1, x_bg h)
theorem x_rst_o {h : HT} {a k : Nat} (q : a ≠ 7 ∧ a ≠ 9 ∧ ¬ (a = 6 ∧ (k = 1 ∨ k = 2))) : x_rst h 6 a k = h a k := by
  unfold x_rst x_unm x_cbp
  rw [hf_na (by omega), hf_na (by omega)]
  unfold hs_
  rw [if_neg (by omega), if_neg (by omega)]
theorem x_b2_o {h : HT} {a k : Nat} (q : ¬ (6 ≤ a ∧ a ≤ 9) ∧ a ≠ 11 ∧ a ≠ 13 ∧ a ≠ 17) : x_b2 h a k = h a k := by
  unfold x_b2 x_b1
  rw [hf_na (by omega), hs_na (by omega), hs_na (by omega), hs_na (by omega)]
  exact x_rst_o (by omega)
theorem x_bg_o {h : HT} {a k : Nat} (q : ¬ (6 ≤ a ∧ a ≤ 9) ∧ a ≠ 11 ∧ a ≠ 13 ∧ a ≠ 17 ∧ ¬ (24 ≤ a ∧ a ≤ 27) ∧ ¬ (a = 0 ∧ k = 6)) : x_bg h a k = h a k := by
  unfold x_bg x_cpy
  rw [show ∀ (X : HT) v, hs_ X 0 6 v a k = X a k from fun X v => if_neg q.2.2.2.2.2, hf_na (by omega), hf_na (by omega), hf_na (by omega), hs_na (by omega), hs_na (by omega), hs_na (by omega)]
  exact x_b2_o ⟨q.1, q.2.1, q.2.2.1, q.2.2.2.1⟩
theorem x_bg6 {h : HT} : x_cpy (x_b2 h) 24 6 6 0 = h 6 0 := by
  unfold x_cpy x_b2 x_b1
  rw [hf_na (by decide), hf_na (by decide), hf_na (by decide), hs_na (by decide), hs_na (by decide), hs_na (by decide), hf_na (by decide), hs_na (by decide), hs_na (by decide), hs_na (by decide)]
  exact x_rst_o (by decide)
theorem x_beginM (d : Nat) (τ : TT) (h : HT) (hT : TK τ) (x : MI h) (y : XR τ h) : S_ mX11_begin (d + 3) 0 0 [.inr (some 0)] τ h (Zi τ fun v h' => v = (x_begin h).1 ∧ h' = (x_begin h).2) := by
  have n9 := x.n9
  have d1 := x.d1
  have n_ := x.n_
  have fn := y.fn_
  have da := y.da_
  have cn := y.cn_
  have r_r_ := x.r_
  have s_s_ := x.s_
  have dc := y.dc_
  have pc := y.pc_
  have pp := x.p_
  have fgc := y.fg_.1
  have f10 := x.f_
  have ra := y.ra_
  have a100 := x.a_
  have pic := y.pi_
  have t40 := x.t_
  have txx := y.tx_
  have e80 := x.e_
  refine S_go (k := 0) (ls := [some (.inr (some 0))]) (by decide) rfl (Nat.le_of_ble_eq_true rfl) rfl ?_
  refine G_aload_n (i := 0) dX11_begin_0 rfl rfl ?_
  refine G_getI (v := h 0 6) fX11_40 rfl dX11_begin_1 (o0 hT) rfl ?_
  refine G_if_ne (tgt := 26) dX11_begin_4 (by decide) (by omega) (fun c_1 => ?_) (fun c_1 => ?_)
  · refine G_bipush dX11_begin_26 (by decide) ?_
    refine G_iretZ rfl dX11_begin_28 ?_
    unfold x_begin; rw [if_pos (by omega)]; exact ⟨rfl, rfl⟩
  · refine G_aload_n (i := 0) dX11_begin_7 rfl rfl ?_
    refine G_getR fX11_36 rfl dX11_begin_8 (o0 hT) (r0_5 hT) ?_
    refine G_getI (v := h 6 0) fX11_157 rfl dX11_begin_11 (o6 hT) rfl ?_
    refine G_if_eq (tgt := 26) dX11_begin_14 (by decide) (by omega) (fun c_2 => ?_) (fun c_2 => ?_)
    · refine G_bipush dX11_begin_26 (by decide) ?_
      refine G_iretZ rfl dX11_begin_28 ?_
      unfold x_begin; rw [if_pos (by omega)]; exact ⟨rfl, rfl⟩
    · refine G_aload_n (i := 0) dX11_begin_17 rfl rfl ?_
      refine G_bipush dX11_begin_18 (by decide) ?_
      refine G_cVq (as := [.inl (-5)]) qX11_141 (x_standsInRing (d + 2) τ h hT (-5) (by decide) (by omega) y.wr_) rfl rfl (Nat.le_of_ble_eq_true rfl) (o0 hT) dX11_begin_20 ?_
      refine G_ifb_eq (tgt := 29) dX11_begin_23 (by decide) (fun c_3 => ?_) (fun c_3 => ?_)
      · refine G_aload_n (i := 0) dX11_begin_29 rfl rfl ?_
        refine G_getR fX11_36 rfl dX11_begin_30 (o0 hT) (r0_5 hT) ?_
        refine G_cVv (as := []) qX11_160 (x_restart d τ h 6 (fl6 hT)) rfl rfl (Nat.le_of_ble_eq_true rfl) (o6 hT) dX11_begin_33 (fun h' e' => ?_)
        subst e'
        refine G_aload_n (i := 0) dX11_begin_36 rfl rfl ?_
        refine G_getR fX11_49 rfl dX11_begin_37 (o0 hT) (r0_7 hT) ?_
        refine G_cVv (as := []) qX11_126 (x_clear (d + 2) τ (x_rst h 6) 11 300 (st11 hT)) rfl rfl (Nat.le_of_ble_eq_true rfl) (o11 hT) dX11_begin_40 (fun h' e' => ?_)
        subst e'
        refine G_aload_n (i := 0) dX11_begin_43 rfl rfl ?_
        refine G_getR fX11_56 rfl dX11_begin_44 (o0 hT) (r0_8 hT) ?_
        refine G_aload_n (i := 0) dX11_begin_47 rfl rfl ?_
        refine G_getR fX11_36 rfl dX11_begin_48 (o0 hT) (r0_5 hT) ?_
        refine G_getI (v := h 6 0) fX11_157 rfl dX11_begin_51 (o6 hT) ((hs_na (by decide)).trans (x_rst_o (by decide))) ?_
        refine G_aload_n (i := 0) dX11_begin_54 rfl rfl ?_
        refine G_getR fX11_30 rfl dX11_begin_55 (o0 hT) (r0_4 hT) ?_
        refine G_cVv (as := [.inl (h 6 0), .inr (some 5)]) qX11_129 (x_openC (d + 1) τ (x_b1 h) hT (h 6 0)) rfl rfl (Nat.le_of_ble_eq_true rfl) (o13 hT) dX11_begin_58 (fun h' e' => ?_)
        subst e'
        refine G_aload_n (i := 0) dX11_begin_61 rfl rfl ?_
        refine G_getR fX11_67 rfl dX11_begin_62 (o0 hT) (r0_10 hT) ?_
        refine G_aload_n (i := 0) dX11_begin_65 rfl rfl ?_
        refine G_getR fX11_36 rfl dX11_begin_66 (o0 hT) (r0_5 hT) ?_
        refine G_cVv (as := [.inr (some 6)]) qX11_163 (x_copyF (d + 1) τ (x_b2 h) 24 (fl24 hT) 6 (fl6 hT) (by decide)) rfl rfl (Nat.le_of_ble_eq_true rfl) (o24 hT) dX11_begin_69 (fun h' e' => ?_)
        subst e'
        refine G_aload_n (i := 0) dX11_begin_72 rfl rfl ?_
        refine G_iconst dX11_begin_73 ?_
        refine G_putZ fX11_40 (by decide) dX11_begin_74 (o0 hT) ?_
        refine G_aload_n (i := 0) dX11_begin_77 rfl rfl ?_
        refine G_getR fX11_36 rfl dX11_begin_78 (o0 hT) (r0_5 hT) ?_
        refine G_getI (v := h 6 0) fX11_157 rfl dX11_begin_81 (o6 hT) ((hs_na (by decide)).trans (x_bg6)) ?_
        refine G_iretZ rfl dX11_begin_84 ?_
        unfold x_begin; rw [if_neg (by omega), if_neg (fun z => absurd ((st_e x y (by omega)).mpr z) (by assumption))]
        exact ⟨by omega, rfl⟩
      · refine G_bipush dX11_begin_26 (by decide) ?_
        refine G_iretZ rfl dX11_begin_28 ?_
        unfold x_begin; rw [if_neg (by omega), if_pos ((st_e x y (by omega)).mp (by assumption))]; exact ⟨rfl, rfl⟩

theorem beg_o {h : HT} {N a k : Nat} (q : ¬ (6 ≤ a ∧ a ≤ 9) ∧ a ≠ 11 ∧ a ≠ 13 ∧ a ≠ 17 ∧ ¬ (24 ≤ a ∧ a ≤ 27) ∧ ¬ (a = 0 ∧ k = 6) ∧ a ≠ 89 ∧ a ≠ 90 ∧ a ≠ 94 ∧ ¬ (a = 81 ∧ (k = 11 ∨ k = 14 ∨ k = 15))) : (f_beginL (hs_ (hs_ (hs_ (x_bg h) 81 11 1) 81 14 0) 81 15 0) N) a k = h a k := by
  obtain ⟨q1, q2, q3, q4, q5, q6, q7, q8, q9, q10⟩ := q
  have e : (f_beginL (hs_ (hs_ (hs_ (x_bg h) 81 11 1) 81 14 0) 81 15 0) N) a k = hs_ (hs_ (hs_ (x_bg h) 81 11 1) 81 14 0) 81 15 0 a k := by
    unfold f_beginL
    by_cases z : k < N
    · rw [if_pos z, if_neg q7, if_neg q8, if_neg q9]
    · rw [if_neg z]
  rw [e]
  unfold hs_
  rw [if_neg (by omega), if_neg (by omega), if_neg (by omega)]
  exact x_bg_o ⟨q1, q2, q3, q4, q5, q6⟩
theorem beg_n {h : HT} {N j : Nat} (hj : j < N) : let H := (f_beginL (hs_ (hs_ (hs_ (x_bg h) 81 11 1) 81 14 0) 81 15 0) N); H 89 j = h 88 j ∧ H 90 j = h 87 j ∧ H 94 j = 0 := by
  have e1 : x_bg h 88 j = h 88 j := x_bg_o (by omega)
  have e2 : x_bg h 87 j = h 87 j := x_bg_o (by omega)
  simp [f_beginL, hs_, hj, e1, e2]
theorem beg_m {h : HT} {N j : Nat} (hj : ¬ j < N) : let H := (f_beginL (hs_ (hs_ (hs_ (x_bg h) 81 11 1) 81 14 0) 81 15 0) N); H 89 j = h 89 j ∧ H 90 j = h 90 j ∧ H 94 j = h 94 j := by
  have e1 : x_bg h 89 j = h 89 j := x_bg_o (by omega)
  have e2 : x_bg h 90 j = h 90 j := x_bg_o (by omega)
  have e3 : x_bg h 94 j = h 94 j := x_bg_o (by omega)
  simp [f_beginL, hs_, hj, e1, e2, e3]
theorem beg_v {h : HT} {N j : Nat} (hj : j < 9) : let H := (f_beginL (hs_ (hs_ (hs_ (x_bg h) 81 11 1) 81 14 0) 81 15 0) N); H 7 j = (j : Int) ∧ H 8 j = h 8 j ∧ H 9 j = 0 ∧ H 17 j = h 5 j ∧ H 25 j = (j : Int) ∧ H 26 j = h 8 j ∧ H 27 j = 0 := by
  simp [f_beginL, x_bg, x_cpy, x_b2, x_b1, x_rst, x_unm, x_cbp, hs_, hf_, hj]
theorem beg_f {h : HT} {N : Nat} : let H := (f_beginL (hs_ (hs_ (hs_ (x_bg h) 81 11 1) 81 14 0) 81 15 0) N); H 81 11 = 1 ∧ H 81 14 = 0 ∧ H 81 15 = 0 ∧ H 6 0 = h 6 0 ∧ H 6 1 = 0 ∧ H 6 2 = 0 ∧ H 11 1 = 0 ∧ H 13 0 = h 6 0 ∧ H 13 1 = 0 ∧ H 24 0 = h 6 0 ∧ H 24 1 = 0 ∧ H 24 2 = 0 ∧ H 0 6 = 1 := by
  simp [f_beginL, x_bg, x_cpy, x_b2, x_b1, x_rst, x_unm, x_cbp, hs_, hf_]
theorem SIM_begin {τ : TT} {h : HT} (s : SIM τ h) {N : Nat} (hN : h 81 1 = N) (hN3 : 3 ≤ N ∧ N ≤ 9) (hd : h 81 11 = 0) : SIM τ (f_beginL (hs_ (hs_ (hs_ (x_bg h) 81 11 1) 81 14 0) 81 15 0) N) := by
  obtain ⟨hT, x, y⟩ := s
  have bn := fun j hj => beg_n (h := h) (N := N) (j := j) hj
  have bm := fun j hj => beg_m (h := h) (N := N) (j := j) hj
  have bv := fun j hj => beg_v (h := h) (N := N) (j := j) hj
  have bf := beg_f (h := h) (N := N)
  have fn := y.fn_
  generalize hH : (f_beginL (hs_ (hs_ (hs_ (x_bg h) 81 11 1) 81 14 0) 81 15 0) N) = H
  have o81_0 : H 81 0 = h 81 0 := by rw [← hH]; exact beg_o (by omega)
  have o81_1 : H 81 1 = h 81 1 := by rw [← hH]; exact beg_o (by omega)
  have o81_20 : H 81 20 = h 81 20 := by rw [← hH]; exact beg_o (by omega)
  have o81_26 : H 81 26 = h 81 26 := by rw [← hH]; exact beg_o (by omega)
  have o81_27 : H 81 27 = h 81 27 := by rw [← hH]; exact beg_o (by omega)
  have o81_55 : H 81 55 = h 81 55 := by rw [← hH]; exact beg_o (by omega)
  have q0_1 : H 0 1 = h 0 1 := by rw [← hH]; exact beg_o (by omega)
  have q2_1 : H 2 1 = h 2 1 := by rw [← hH]; exact beg_o (by omega)
  have q18_3 : H 18 3 = h 18 3 := by rw [← hH]; exact beg_o (by omega)
  have q39_1 : H 39 1 = h 39 1 := by rw [← hH]; exact beg_o (by omega)
  have q39_3 : H 39 3 = h 39 3 := by rw [← hH]; exact beg_o (by omega)
  have o82 : ∀ k, H 82 k = h 82 k := fun k => by rw [← hH]; exact beg_o (by omega)
  have o83 : ∀ k, H 83 k = h 83 k := fun k => by rw [← hH]; exact beg_o (by omega)
  have o84 : ∀ k, H 84 k = h 84 k := fun k => by rw [← hH]; exact beg_o (by omega)
  have o85 : ∀ k, H 85 k = h 85 k := fun k => by rw [← hH]; exact beg_o (by omega)
  have o86 : ∀ k, H 86 k = h 86 k := fun k => by rw [← hH]; exact beg_o (by omega)
  have o87 : ∀ k, H 87 k = h 87 k := fun k => by rw [← hH]; exact beg_o (by omega)
  have o88 : ∀ k, H 88 k = h 88 k := fun k => by rw [← hH]; exact beg_o (by omega)
  have o93 : ∀ k, H 93 k = h 93 k := fun k => by rw [← hH]; exact beg_o (by omega)
  have o95 : ∀ k, H 95 k = h 95 k := fun k => by rw [← hH]; exact beg_o (by omega)
  have o96 : ∀ k, H 96 k = h 96 k := fun k => by rw [← hH]; exact beg_o (by omega)
  have o97 : ∀ k, H 97 k = h 97 k := fun k => by rw [← hH]; exact beg_o (by omega)
  have o98 : ∀ k, H 98 k = h 98 k := fun k => by rw [← hH]; exact beg_o (by omega)
  have o99 : ∀ k, H 99 k = h 99 k := fun k => by rw [← hH]; exact beg_o (by omega)
  have o102 : ∀ k, H 102 k = h 102 k := fun k => by rw [← hH]; exact beg_o (by omega)
  have o103 : ∀ k, H 103 k = h 103 k := fun k => by rw [← hH]; exact beg_o (by omega)
  have o104 : ∀ k, H 104 k = h 104 k := fun k => by rw [← hH]; exact beg_o (by omega)
  have o122 : ∀ k, H 122 k = h 122 k := fun k => by rw [← hH]; exact beg_o (by omega)
  have o123 : ∀ k, H 123 k = h 123 k := fun k => by rw [← hH]; exact beg_o (by omega)
  have o124 : ∀ k, H 124 k = h 124 k := fun k => by rw [← hH]; exact beg_o (by omega)
  have o3 : ∀ k, H 3 k = h 3 k := fun k => by rw [← hH]; exact beg_o (by omega)
  have o4 : ∀ k, H 4 k = h 4 k := fun k => by rw [← hH]; exact beg_o (by omega)
  have o5 : ∀ k, H 5 k = h 5 k := fun k => by rw [← hH]; exact beg_o (by omega)
  have o12 : ∀ k, H 12 k = h 12 k := fun k => by rw [← hH]; exact beg_o (by omega)
  have o14 : ∀ k, H 14 k = h 14 k := fun k => by rw [← hH]; exact beg_o (by omega)
  have o15 : ∀ k, H 15 k = h 15 k := fun k => by rw [← hH]; exact beg_o (by omega)
  have o16 : ∀ k, H 16 k = h 16 k := fun k => by rw [← hH]; exact beg_o (by omega)
  have o19 : ∀ k, H 19 k = h 19 k := fun k => by rw [← hH]; exact beg_o (by omega)
  have o20 : ∀ k, H 20 k = h 20 k := fun k => by rw [← hH]; exact beg_o (by omega)
  have o21 : ∀ k, H 21 k = h 21 k := fun k => by rw [← hH]; exact beg_o (by omega)
  have o41 : ∀ k, H 41 k = h 41 k := fun k => by rw [← hH]; exact beg_o (by omega)
  have o121 : ∀ k, H 121 k = h 121 k := fun k => by rw [← hH]; exact beg_o (by omega)
  have o100 : ∀ k, H 100 k = h 100 k := fun k => by rw [← hH]; exact beg_o (by omega)
  have hbig : ∀ a k : Nat, 126 ≤ a → H a k = h a k := fun a k ha => by rw [← hH]; exact beg_o (by omega)
  have htp : ∀ a k : Nat, 69 ≤ a → a ≤ 80 → H a k = h a k := fun a k ha hb => by rw [← hH]; exact beg_o (by omega)
  refine ⟨hT, ⟨?_, ?_, ?_, ?_, ?_, ?_, ?_, ?_, ?_, ?_, ?_, ?_, ?_, ?_, ?_, ?_, ?_, ?_, ?_, ?_, ?_, ?_, ?_, ?_, ?_, ?_, ?_, ?_, ?_, ?_, ?_, ?_⟩, ⟨?_, ?_, ?_, ?_, ?_, ?_, ?_, ?_, ?_, ?_, ?_, ?_, ?_, ?_, ?_, ?_, ?_, ?_, ?_, ?_, ?_, ?_, ?_, ?_, ?_, ?_, ?_, ?_, ?_⟩⟩
  · simp only [o81_0]; exact x.p_
  · simp only [o81_1]; exact x.n_
  · right; rw [o81_1]; rw [← hH, bf.1]; omega
  · rw [← hH, bf.2.1]; omega
  · rw [← hH, bf.2.2.1]; omega
  · simp only [o81_20]; exact x.t_
  · simp only [o81_26]; exact x.f_
  · simp only [o81_27]; exact x.e_
  · simp only [o81_55]; exact x.a_
  · simp only [o82]; exact x.ki_
  · simp only [o83]; exact x.re_
  · simp only [o84]; exact x.pa_
  · simp only [o85]; exact x.wh_
  · simp only [o81_1, o86]; exact x.ha_
  · simp only [o81_1, o86]; exact x.hi_
  · simp only [o87]; exact x.co_
  · simp only [o88]; exact x.le_
  · intro k hk; rw [← hH]; by_cases z : k < N; (rw [(bn k z).1]; exact x.le_ k hk); (rw [(bm k z).1]; exact x.be_ k hk)
  · intro k hk; rw [← hH]; by_cases z : k < N; (rw [(bn k z).2.1]; exact x.co_ k hk); (rw [(bm k z).2.1]; exact x.cc_ k hk)
  · intro k hk; rw [← hH, bf.2.1] at hk; omega
  · intro k hk; rw [← hH]; by_cases z : k < N; (rw [(bn k z).2.2]; omega); (rw [(bm k z).2.2]; exact x.mk_ k hk)
  · simp only [o95]; exact x.cr_
  · simp only [o96]; exact x.cm_
  · simp only [o97]; exact x.t7_
  · simp only [o98]; exact x.t8_
  · simp only [o99]; exact x.t9_
  · simp only [o81_26, o102]; exact x.ma_
  · simp only [o81_26, o102, o103]; exact x.to_
  · simp only [o104]; exact x.tx_
  · simp only [o122]; exact x.so_
  · simp only [o123]; exact x.si_
  · simp only [o124]; exact x.it_
  · simp only [o81_0, q0_1]; exact y.pc_
  · intro k hk; rw [o81_0] at hk; obtain ⟨o, p1, p2, p3, p4, p5, p6, p7⟩ := y.pe_ k hk; exact ⟨o, p1, p2, p3, by rw [hbig o 0 p2]; exact p4, by rw [hbig o 1 p2, o82]; exact p5, by rw [hbig o 2 p2, o83]; exact p6, by rw [hbig o 3 p2, o84]; exact p7⟩
  · simp only [o81_55, q2_1]; exact y.ra_
  · simp only [o3, o121]; exact y.tr_
  · simp only [o81_1, o85, o86, o4]; exact y.wh_
  · simp only [o4]; exact y.wr_
  · simp only [o87, o5]; exact y.co_
  · rw [o81_1, ← hH]; obtain ⟨a1, a2, a3, a4, a5, a6, -⟩ := bf; rw [a2, a3, a4, a5, a6]; exact ⟨fn.1, rfl, rfl⟩
  · intro p hp; rw [o81_1] at hp; rw [o86, ← hH, (bv p (by omega)).1, y.nd_ hd p hp]
  · intro k hk; rw [o81_1] at hk; rw [o88, ← hH, (bv k (by omega)).2.1]; exact y.le_ k hk
  · intro p hp; rw [o81_1] at hp; rw [← hH, (bv p (by omega)).2.2.1, (bn p (by omega)).2.2]
  · rw [← hH, bf.1]; exact bf.2.2.2.2.2.2.2.2.2.2.2.2
  · rw [← hH, bf.2.1]; exact bf.2.2.2.2.2.2.1
  · intro k hk; rw [← hH, bf.2.1] at hk; omega
  · rw [o81_1, ← hH]; obtain ⟨a1, a2, a3, a4, a5, a6, a7, a8, a9, -⟩ := bf; rw [a3, a8, a9]; exact ⟨fn.1, rfl⟩
  · intro r p hr; rw [← hH, bf.2.2.1] at hr; omega
  · simp only [o14, o15]; exact y.cr_
  · intro k hk; rw [← hH, (bv k hk).2.2.2.1, y.co_ k hk]; exact x.co_ k hk
  · intro _ k hk; rw [o81_1] at hk; rw [← hH, (bv k (by omega)).2.2.2.1, (bn k (by omega)).2.1]; exact y.co_ k (by omega)
  · simp only [o81_20, q18_3, o97, o98, o99, o19, o20, o21]; exact y.pi_
  · intro _
    rw [o81_1, ← hH]
    obtain ⟨a1, a2, a3, a4, a5, a6, a7, a8, a9, a10, a11, a12, a13⟩ := bf
    refine ⟨by rw [a10]; exact fn.1, a11, a12, fun p hp => ?_⟩
    obtain ⟨v1, v2, v3, v4, v5, v6, v7⟩ := bv p (by omega)
    refine ⟨v5, ?_, v7⟩
    rw [v6, y.le_ p (by omega)]
    exact (bn p (by omega)).1.symm
  · rw [o81_26]; exact (y.fg_.fr q39_1 hbig).cg (fun f hf => figL_c (o102 f) (fun k hk => o103 _))
  · simp only [o81_27, q39_3, o104, o41]; exact y.tx_
  · intro t ht; have := y.tp_ t ht; rw [htp (69 + 2 * t) 0 (by omega) (by omega), htp (69 + 2 * t) 1 (by omega) (by omega), o122, o123]; refine ⟨this.1, this.2.1, fun i hi => ?_⟩; rw [htp (70 + 2 * t) i (by omega) (by omega), o124]; exact this.2.2 i hi
  · intro q; rw [← hH, bf.1] at q; exact absurd q (by decide)
  · simp only [o122, o123]; exact y.sn_
  · intro r p hr; rw [← hH, bf.2.2.1] at hr; omega
  · simp only [o100]; exact y.gs_
  · rw [o81_0, o81_26]; exact y.sz_
theorem op_begin {τ : TT} {h : HT} (s : SIM τ h) : OPS mX11_begin mX12_begin 20 0 0 [] τ h := by
  have s0 := s
  obtain ⟨hT, x, y⟩ := s
  have n_ := x.n_
  refine OPS_f x (x_begin h) (fun g => f_begin g) (fun d => x_beginM (d + 17) τ h hT x y) (fun a i z1 z2 => by unfold x_begin; (repeat (first | rfl | (apply (apply_ite (fun z : Int × HT => z.2 a i) _ _ _).trans; split))); exact x_bg_o (by omega)) (fun d x1 => m_begin (d + 20) τ _ hT x1.n9 x1.d1 x1.wh_) ?_
  show (f_begin (x_begin h).2).1 = (x_begin h).1 ∧ SIM τ (f_begin (x_begin h).2).2
  unfold x_begin
  by_cases g1 : h 81 11 ≠ 0 ∨ h 81 1 = 0
  · rw [if_pos g1]; show (f_begin h).1 = _ ∧ SIM τ (f_begin h).2; unfold f_begin; rw [if_pos g1]; exact ⟨rfl, s0⟩
  rw [if_neg g1]
  by_cases g2 : ∃ k, k < (h 81 1).toNat ∧ h 85 k = -5
  · rw [if_pos g2]; show (f_begin h).1 = _ ∧ SIM τ (f_begin h).2; unfold f_begin; rw [if_neg g1, if_pos g2]; exact ⟨rfl, s0⟩
  rw [if_neg g2]
  show (f_begin (x_bg h)).1 = h 81 1 ∧ SIM τ (f_begin (x_bg h)).2
  have e1 : ∀ k, x_bg h 81 k = h 81 k := fun k => x_bg_o (by omega)
  have e2 : ∀ k, x_bg h 85 k = h 85 k := fun k => x_bg_o (by omega)
  have e : f_begin (x_bg h) = (x_bg h 81 1, f_beginL (hs_ (hs_ (hs_ (x_bg h) 81 11 1) 81 14 0) 81 15 0) (x_bg h 81 1).toNat) := by
    unfold f_begin; simp only [e1, e2]; rw [if_neg g1, if_neg g2]
  rw [e, e1]
  exact ⟨rfl, SIM_begin s0 (N := (h 81 1).toNat) (by omega) (by omega) (by omega)⟩
def x_en (h : HT) : HT := hs_ (x_cbp (x_btp (x_btp (x_btp h 6 4) 6 5) 6 8) 6) 0 6 0
def x_end (h : HT) : Int × HT := if h 0 6 = 0 then (-3, h) else (h 11 1, x_en h)
theorem x_btp_o {h : HT} {r a k : Nat} (q : a ≠ 10 ∧ a ≠ r) : x_btp h 6 r a k = h a k := by
  unfold x_btp; rw [hf_na q.2, hf_na q.1]
theorem x_btp_i {h : HT} {r k N : Nat} (hN : h 6 0 = N) : x_btp h 6 r r k = if k < N then h r (h 7 k).toNat else (if r = 10 then x_btp h 6 r r k else h r k) := by
  by_cases z : k < N
  · rw [if_pos z]; unfold x_btp; rw [hf_in ⟨Nat.zero_le _, by rw [hN]; exact z⟩]
  · rw [if_neg z]
    split
    · rfl
    · rename_i h10
      unfold x_btp; rw [hf_ni (by rw [hN]; intro q; exact z q.2), hf_na h10]
theorem x_en_o {h : HT} {a k : Nat} (q : a ≠ 4 ∧ a ≠ 5 ∧ a ≠ 7 ∧ a ≠ 8 ∧ a ≠ 10 ∧ ¬ (a = 0 ∧ k = 6)) : x_en h a k = h a k := by
  unfold x_en x_cbp
  rw [show ∀ (X : HT) v, hs_ X 0 6 v a k = X a k from fun X v => if_neg q.2.2.2.2.2, hf_na q.2.2.1, x_btp_o ⟨q.2.2.2.2.1, q.2.2.2.1⟩, x_btp_o ⟨q.2.2.2.2.1, q.2.1⟩, x_btp_o ⟨q.2.2.2.2.1, q.1⟩]
theorem x_en_v {h : HT} {N k : Nat} (hN : h 6 0 = N) (hk : k < 9) : x_en h 7 k = (k : Int) ∧ x_en h 4 k = (if k < N then h 4 (h 7 k).toNat else h 4 k) ∧ x_en h 5 k = (if k < N then h 5 (h 7 k).toNat else h 5 k) ∧ x_en h 8 k = (if k < N then h 8 (h 7 k).toNat else h 8 k) := by
  unfold x_en x_cbp
  refine ⟨?_, ?_, ?_, ?_⟩
  · rw [hs_na (by decide), hf_in ⟨Nat.zero_le _, hk⟩]
  · rw [hs_na (by decide), hf_na (by decide), x_btp_o (by decide), x_btp_o (by decide), x_btp_i hN]
    rfl
  · rw [hs_na (by decide), hf_na (by decide), x_btp_o (by decide), x_btp_i (N := N) ((x_btp_o (by decide)).trans hN)]
    simp only [x_btp_o (show (7 : Nat) ≠ 10 ∧ (7 : Nat) ≠ 4 by decide), x_btp_o (show (5 : Nat) ≠ 10 ∧ (5 : Nat) ≠ 4 by decide)]
    rfl
  · rw [hs_na (by decide), hf_na (by decide), x_btp_i (N := N) ((x_btp_o (by decide)).trans ((x_btp_o (by decide)).trans hN))]
    simp only [x_btp_o (show (7 : Nat) ≠ 10 ∧ (7 : Nat) ≠ 4 by decide), x_btp_o (show (7 : Nat) ≠ 10 ∧ (7 : Nat) ≠ 5 by decide), x_btp_o (show (8 : Nat) ≠ 10 ∧ (8 : Nat) ≠ 4 by decide), x_btp_o (show (8 : Nat) ≠ 10 ∧ (8 : Nat) ≠ 5 by decide)]
    rfl
theorem x_en11 {h : HT} : (x_cbp (x_btp (x_btp (x_btp h 6 4) 6 5) 6 8) 6) 11 1 = h 11 1 := by unfold x_cbp; rw [hf_na (by decide), x_btp_o (by decide), x_btp_o (by decide), x_btp_o (by decide)]
theorem x_endM (d : Nat) (τ : TT) (h : HT) (hT : TK τ) (x : MI h) (y : XR τ h) : S_ mX11_end (d + 2) 0 0 [.inr (some 0)] τ h (Zi τ fun v h' => v = (x_end h).1 ∧ h' = (x_end h).2) := by
  have n9 := x.n9
  have d1 := x.d1
  have n_ := x.n_
  have fn := y.fn_
  have da := y.da_
  have cn := y.cn_
  have r_r_ := x.r_
  have s_s_ := x.s_
  have dc := y.dc_
  have pc := y.pc_
  have pp := x.p_
  have fgc := y.fg_.1
  have f10 := x.f_
  have ra := y.ra_
  have a100 := x.a_
  have pic := y.pi_
  have t40 := x.t_
  have txx := y.tx_
  have e80 := x.e_
  refine S_go (k := 0) (ls := [some (.inr (some 0))]) (by decide) rfl (Nat.le_of_ble_eq_true rfl) rfl ?_
  refine G_aload_n (i := 0) dX11_end_0 rfl rfl ?_
  refine G_getI (v := h 0 6) fX11_40 rfl dX11_end_1 (o0 hT) rfl ?_
  refine G_if_ne (tgt := 10) dX11_end_4 (by decide) (by omega) (fun c_1 => ?_) (fun c_1 => ?_)
  · refine G_aload_n (i := 0) dX11_end_10 rfl rfl ?_
    refine G_getR fX11_36 rfl dX11_end_11 (o0 hT) (r0_5 hT) ?_
    refine G_aload_n (i := 0) dX11_end_14 rfl rfl ?_
    refine G_getR fX11_26 rfl dX11_end_15 (o0 hT) (r0_3 hT) ?_
    refine G_cVv (as := [.inr (some 4)]) qX11_167 (x_bringToPlaces d τ h 6 (fl6 hT) 4 (o4 hT) (by decide) (by omega) (fun k hk => by have := y.or_ k (by omega); have := x.ha_ k (by omega); show 0 ≤ h 7 k ∧ h 7 k < 9; omega)) rfl rfl (Nat.le_of_ble_eq_true rfl) (o6 hT) dX11_end_18 (fun h' e' => ?_)
    subst e'
    refine G_aload_n (i := 0) dX11_end_21 rfl rfl ?_
    refine G_getR fX11_36 rfl dX11_end_22 (o0 hT) (r0_5 hT) ?_
    refine G_aload_n (i := 0) dX11_end_25 rfl rfl ?_
    refine G_getR fX11_30 rfl dX11_end_26 (o0 hT) (r0_4 hT) ?_
    refine G_cVv (as := [.inr (some 5)]) qX11_167 (x_bringToPlaces d τ (x_btp h 6 4) 6 (fl6 hT) 5 (o5 hT) (by decide) (by rw [x_btp_o (by decide)]; omega) (fun k hk => by rw [x_btp_o (by omega)]; rw [x_btp_o (by decide)] at hk; have := y.or_ k (by omega); have := x.ha_ k (by omega); show 0 ≤ h 7 k ∧ h 7 k < 9; omega)) rfl rfl (Nat.le_of_ble_eq_true rfl) (o6 hT) dX11_end_29 (fun h' e' => ?_)
    subst e'
    refine G_aload_n (i := 0) dX11_end_32 rfl rfl ?_
    refine G_getR fX11_36 rfl dX11_end_33 (o0 hT) (r0_5 hT) ?_
    refine G_aload_n (i := 0) dX11_end_36 rfl rfl ?_
    refine G_getR fX11_36 rfl dX11_end_37 (o0 hT) (r0_5 hT) ?_
    refine G_getR fX11_151 rfl dX11_end_40 (o6 hT) (r6_4 hT) ?_
    refine G_cVv (as := [.inr (some 8)]) qX11_167 (x_bringToPlaces d τ (x_btp (x_btp h 6 4) 6 5) 6 (fl6 hT) 8 (o8 hT) (by decide) (by rw [x_btp_o (by decide)]; rw [x_btp_o (by decide)]; omega) (fun k hk => by rw [x_btp_o (by omega)]; rw [x_btp_o (by omega)]; rw [x_btp_o (by decide)] at hk; rw [x_btp_o (by decide)] at hk; have := y.or_ k (by omega); have := x.ha_ k (by omega); show 0 ≤ h 7 k ∧ h 7 k < 9; omega)) rfl rfl (Nat.le_of_ble_eq_true rfl) (o6 hT) dX11_end_43 (fun h' e' => ?_)
    subst e'
    refine G_aload_n (i := 0) dX11_end_46 rfl rfl ?_
    refine G_getR fX11_36 rfl dX11_end_47 (o0 hT) (r0_5 hT) ?_
    refine G_cVv (as := []) qX11_171 (x_callByPlaces (d + 1) τ (x_btp (x_btp (x_btp h 6 4) 6 5) 6 8) 6 (fl6 hT)) rfl rfl (Nat.le_of_ble_eq_true rfl) (o6 hT) dX11_end_50 (fun h' e' => ?_)
    subst e'
    refine G_aload_n (i := 0) dX11_end_53 rfl rfl ?_
    refine G_iconst dX11_end_54 ?_
    refine G_putZ fX11_40 (by decide) dX11_end_55 (o0 hT) ?_
    refine G_aload_n (i := 0) dX11_end_58 rfl rfl ?_
    refine G_getR fX11_49 rfl dX11_end_59 (o0 hT) (r0_7 hT) ?_
    refine G_getI (v := h 11 1) fX11_174 rfl dX11_end_62 (o11 hT) ((hs_na (by decide)).trans (x_en11)) ?_
    refine G_iretZ rfl dX11_end_65 ?_
    unfold x_end; (repeat (first | rw [if_pos (by omega)] | rw [if_neg (by omega)])); exact ⟨rfl, rfl⟩
  · refine G_bipush dX11_end_7 (by decide) ?_
    refine G_iretZ rfl dX11_end_9 ?_
    unfold x_end; (repeat (first | rw [if_pos (by omega)] | rw [if_neg (by omega)])); exact ⟨rfl, rfl⟩

theorem en_o {h : HT} {N a k : Nat} (q : a ≠ 4 ∧ a ≠ 5 ∧ a ≠ 7 ∧ a ≠ 8 ∧ a ≠ 10 ∧ ¬ (a = 0 ∧ k = 6) ∧ a ≠ 86 ∧ a ≠ 87 ∧ a ≠ 88 ∧ a ≠ 91 ∧ a ≠ 92 ∧ ¬ (a = 81 ∧ k = 11)) : (f_endL2 (f_endL1 (hs_ (x_en h) 81 11 0) N) N) a k = h a k := by
  obtain ⟨q1, q2, q3, q4, q5, q6, q7, q8, q9, q10, q11, q12⟩ := q
  have e : (f_endL2 (f_endL1 (hs_ (x_en h) 81 11 0) N) N) a k = hs_ (x_en h) 81 11 0 a k := by
    unfold f_endL2 f_endL1
    by_cases z : k < N
    · rw [if_pos z, if_neg q8, if_neg q9, if_neg q7, if_pos z, if_neg q10, if_neg q11]
    · rw [if_neg z, if_neg z]
  rw [e, show ∀ (X : HT) v, hs_ X 81 11 v a k = X a k from fun X v => if_neg q12]
  exact x_en_o ⟨q1, q2, q3, q4, q5, q6⟩
theorem en_c {h : HT} {N a k : Nat} (q : a = 4 ∨ a = 5 ∨ a = 7 ∨ a = 8 ∨ (a = 0 ∧ k = 6)) : (f_endL2 (f_endL1 (hs_ (x_en h) 81 11 0) N) N) a k = x_en h a k := by
  have e : (f_endL2 (f_endL1 (hs_ (x_en h) 81 11 0) N) N) a k = hs_ (x_en h) 81 11 0 a k := by
    unfold f_endL2 f_endL1
    by_cases z : k < N
    · rw [if_pos z, if_neg (by omega), if_neg (by omega), if_neg (by omega), if_pos z, if_neg (by omega), if_neg (by omega)]
    · rw [if_neg z, if_neg z]
  rw [e, hs_na (by omega)]
theorem en_r {h : HT} {N k : Nat} : let H := (f_endL2 (f_endL1 (hs_ (x_en h) 81 11 0) N) N); H 81 11 = 0 ∧ H 86 k = (if k < N then (k : Int) else h 86 k) ∧ H 87 k = (if k < N then h 87 (h 86 k).toNat else h 87 k) ∧ H 88 k = (if k < N then h 88 (h 86 k).toNat else h 88 k) := by
  have e6 : ∀ j, x_en h 86 j = h 86 j := fun j => x_en_o (by omega)
  have e7 : ∀ j, x_en h 87 j = h 87 j := fun j => x_en_o (by omega)
  have e8 : ∀ j, x_en h 88 j = h 88 j := fun j => x_en_o (by omega)
  by_cases z : k < N <;> simp [f_endL2, f_endL1, hs_, z, e6, e7, e8]
theorem SIM_end {τ : TT} {h : HT} (s : SIM τ h) {N : Nat} (hN : h 81 1 = N) (hN3 : 3 ≤ N ∧ N ≤ 9) : SIM τ (f_endL2 (f_endL1 (hs_ (x_en h) 81 11 0) N) N) := by
  obtain ⟨hT, x, y⟩ := s
  have er := fun k => en_r (h := h) (N := N) (k := k)
  have fn := y.fn_
  have ev := fun k hk => x_en_v (h := h) (N := N) (k := k) (by omega) hk
  have orr : ∀ k : Nat, k < N → h 7 k = h 86 k ∧ 0 ≤ h 86 k ∧ h 86 k < N := fun k hk => ⟨y.or_ k (by omega), by have := x.ha_ k (by omega); omega⟩
  generalize hH : (f_endL2 (f_endL1 (hs_ (x_en h) 81 11 0) N) N) = H
  have o81_0 : H 81 0 = h 81 0 := by rw [← hH]; exact en_o (by omega)
  have o81_1 : H 81 1 = h 81 1 := by rw [← hH]; exact en_o (by omega)
  have o81_14 : H 81 14 = h 81 14 := by rw [← hH]; exact en_o (by omega)
  have o81_15 : H 81 15 = h 81 15 := by rw [← hH]; exact en_o (by omega)
  have o81_20 : H 81 20 = h 81 20 := by rw [← hH]; exact en_o (by omega)
  have o81_26 : H 81 26 = h 81 26 := by rw [← hH]; exact en_o (by omega)
  have o81_27 : H 81 27 = h 81 27 := by rw [← hH]; exact en_o (by omega)
  have o81_55 : H 81 55 = h 81 55 := by rw [← hH]; exact en_o (by omega)
  have q0_1 : H 0 1 = h 0 1 := by rw [← hH]; exact en_o (by omega)
  have q2_1 : H 2 1 = h 2 1 := by rw [← hH]; exact en_o (by omega)
  have q6_0 : H 6 0 = h 6 0 := by rw [← hH]; exact en_o (by omega)
  have q6_1 : H 6 1 = h 6 1 := by rw [← hH]; exact en_o (by omega)
  have q6_2 : H 6 2 = h 6 2 := by rw [← hH]; exact en_o (by omega)
  have q11_1 : H 11 1 = h 11 1 := by rw [← hH]; exact en_o (by omega)
  have q13_0 : H 13 0 = h 13 0 := by rw [← hH]; exact en_o (by omega)
  have q13_1 : H 13 1 = h 13 1 := by rw [← hH]; exact en_o (by omega)
  have q18_3 : H 18 3 = h 18 3 := by rw [← hH]; exact en_o (by omega)
  have q39_1 : H 39 1 = h 39 1 := by rw [← hH]; exact en_o (by omega)
  have q39_3 : H 39 3 = h 39 3 := by rw [← hH]; exact en_o (by omega)
  have o82 : ∀ k, H 82 k = h 82 k := fun k => by rw [← hH]; exact en_o (by omega)
  have o83 : ∀ k, H 83 k = h 83 k := fun k => by rw [← hH]; exact en_o (by omega)
  have o84 : ∀ k, H 84 k = h 84 k := fun k => by rw [← hH]; exact en_o (by omega)
  have o85 : ∀ k, H 85 k = h 85 k := fun k => by rw [← hH]; exact en_o (by omega)
  have o89 : ∀ k, H 89 k = h 89 k := fun k => by rw [← hH]; exact en_o (by omega)
  have o90 : ∀ k, H 90 k = h 90 k := fun k => by rw [← hH]; exact en_o (by omega)
  have o93 : ∀ k, H 93 k = h 93 k := fun k => by rw [← hH]; exact en_o (by omega)
  have o94 : ∀ k, H 94 k = h 94 k := fun k => by rw [← hH]; exact en_o (by omega)
  have o95 : ∀ k, H 95 k = h 95 k := fun k => by rw [← hH]; exact en_o (by omega)
  have o96 : ∀ k, H 96 k = h 96 k := fun k => by rw [← hH]; exact en_o (by omega)
  have o97 : ∀ k, H 97 k = h 97 k := fun k => by rw [← hH]; exact en_o (by omega)
  have o98 : ∀ k, H 98 k = h 98 k := fun k => by rw [← hH]; exact en_o (by omega)
  have o99 : ∀ k, H 99 k = h 99 k := fun k => by rw [← hH]; exact en_o (by omega)
  have o102 : ∀ k, H 102 k = h 102 k := fun k => by rw [← hH]; exact en_o (by omega)
  have o103 : ∀ k, H 103 k = h 103 k := fun k => by rw [← hH]; exact en_o (by omega)
  have o104 : ∀ k, H 104 k = h 104 k := fun k => by rw [← hH]; exact en_o (by omega)
  have o122 : ∀ k, H 122 k = h 122 k := fun k => by rw [← hH]; exact en_o (by omega)
  have o123 : ∀ k, H 123 k = h 123 k := fun k => by rw [← hH]; exact en_o (by omega)
  have o124 : ∀ k, H 124 k = h 124 k := fun k => by rw [← hH]; exact en_o (by omega)
  have o3 : ∀ k, H 3 k = h 3 k := fun k => by rw [← hH]; exact en_o (by omega)
  have o9 : ∀ k, H 9 k = h 9 k := fun k => by rw [← hH]; exact en_o (by omega)
  have o12 : ∀ k, H 12 k = h 12 k := fun k => by rw [← hH]; exact en_o (by omega)
  have o14 : ∀ k, H 14 k = h 14 k := fun k => by rw [← hH]; exact en_o (by omega)
  have o15 : ∀ k, H 15 k = h 15 k := fun k => by rw [← hH]; exact en_o (by omega)
  have o16 : ∀ k, H 16 k = h 16 k := fun k => by rw [← hH]; exact en_o (by omega)
  have o17 : ∀ k, H 17 k = h 17 k := fun k => by rw [← hH]; exact en_o (by omega)
  have o19 : ∀ k, H 19 k = h 19 k := fun k => by rw [← hH]; exact en_o (by omega)
  have o20 : ∀ k, H 20 k = h 20 k := fun k => by rw [← hH]; exact en_o (by omega)
  have o21 : ∀ k, H 21 k = h 21 k := fun k => by rw [← hH]; exact en_o (by omega)
  have o41 : ∀ k, H 41 k = h 41 k := fun k => by rw [← hH]; exact en_o (by omega)
  have o121 : ∀ k, H 121 k = h 121 k := fun k => by rw [← hH]; exact en_o (by omega)
  have o100 : ∀ k, H 100 k = h 100 k := fun k => by rw [← hH]; exact en_o (by omega)
  have hbig : ∀ a k : Nat, 126 ≤ a → H a k = h a k := fun a k ha => by rw [← hH]; exact en_o (by omega)
  have hst : ∀ a k : Nat, 24 ≤ a → a ≤ 27 → H a k = h a k := fun a k ha hb => by rw [← hH]; exact en_o (by omega)
  have htp : ∀ a k : Nat, 69 ≤ a → a ≤ 80 → H a k = h a k := fun a k ha hb => by rw [← hH]; exact en_o (by omega)
  refine ⟨hT, ⟨?_, ?_, ?_, ?_, ?_, ?_, ?_, ?_, ?_, ?_, ?_, ?_, ?_, ?_, ?_, ?_, ?_, ?_, ?_, ?_, ?_, ?_, ?_, ?_, ?_, ?_, ?_, ?_, ?_, ?_, ?_, ?_⟩, ⟨?_, ?_, ?_, ?_, ?_, ?_, ?_, ?_, ?_, ?_, ?_, ?_, ?_, ?_, ?_, ?_, ?_, ?_, ?_, ?_, ?_, ?_, ?_, ?_, ?_, ?_, ?_, ?_, ?_⟩⟩
  · simp only [o81_0]; exact x.p_
  · simp only [o81_1]; exact x.n_
  · left; rw [← hH]; exact (er 0).1
  · simp only [o81_1, o81_14]; exact x.s_
  · simp only [o81_1, o81_15]; exact x.r_
  · simp only [o81_20]; exact x.t_
  · simp only [o81_26]; exact x.f_
  · simp only [o81_27]; exact x.e_
  · simp only [o81_55]; exact x.a_
  · simp only [o82]; exact x.ki_
  · simp only [o83]; exact x.re_
  · simp only [o84]; exact x.pa_
  · simp only [o85]; exact x.wh_
  · intro k hk; rw [o81_1] at hk ⊢; rw [← hH, (er k).2.1, if_pos (by omega)]; omega
  · intro j k hj hk; rw [o81_1] at hj hk; rw [← hH, (er k).2.1, (er j).2.1, if_pos (by omega), if_pos (by omega)]; omega
  · intro k hk; rw [← hH, (er k).2.2.1]; by_cases z : k < N; (rw [if_pos z]; have := orr k z; exact x.co_ _ (by omega)); (rw [if_neg z]; exact x.co_ k hk)
  · intro k hk; rw [← hH, (er k).2.2.2]; by_cases z : k < N; (rw [if_pos z]; have := orr k z; exact x.le_ _ (by omega)); (rw [if_neg z]; exact x.le_ k hk)
  · simp only [o89]; exact x.be_
  · simp only [o90]; exact x.cc_
  · simp only [o81_1, o81_14, o93]; exact x.st_
  · simp only [o94]; exact x.mk_
  · simp only [o95]; exact x.cr_
  · simp only [o96]; exact x.cm_
  · simp only [o97]; exact x.t7_
  · simp only [o98]; exact x.t8_
  · simp only [o99]; exact x.t9_
  · simp only [o81_26, o102]; exact x.ma_
  · simp only [o81_26, o102, o103]; exact x.to_
  · simp only [o104]; exact x.tx_
  · simp only [o122]; exact x.so_
  · simp only [o123]; exact x.si_
  · simp only [o124]; exact x.it_
  · simp only [o81_0, q0_1]; exact y.pc_
  · intro k hk; rw [o81_0] at hk; obtain ⟨o, p1, p2, p3, p4, p5, p6, p7⟩ := y.pe_ k hk; exact ⟨o, p1, p2, p3, by rw [hbig o 0 p2]; exact p4, by rw [hbig o 1 p2, o82]; exact p5, by rw [hbig o 2 p2, o83]; exact p6, by rw [hbig o 3 p2, o84]; exact p7⟩
  · simp only [o81_55, q2_1]; exact y.ra_
  · simp only [o3, o121]; exact y.tr_
  · intro p hp
    rw [o81_1] at hp
    rw [o85, ← hH, (er p).2.1, if_pos (by omega), Int.toNat_natCast, en_c (Or.inl rfl), (ev p (by omega)).2.1, if_pos (by omega), (orr p (by omega)).1]
    exact y.wh_ p hp
  · intro k hk; rw [← hH, en_c (Or.inl rfl), (ev k hk).2.1]; by_cases z : k < N; (rw [if_pos z]; have := orr k z; exact y.wr_ _ (by omega)); (rw [if_neg z]; exact y.wr_ k hk)
  · intro k hk; rw [← hH, en_c (Or.inr (Or.inl rfl)), (ev k hk).2.2.1, (er k).2.2.1]; by_cases z : k < N; (rw [if_pos z, if_pos z]; have := orr k z; rw [this.1]; exact y.co_ _ (by omega)); (rw [if_neg z, if_neg z]; exact y.co_ k hk)
  · simp only [o81_1, o81_14, o81_15, q6_0, q6_1, q6_2]; exact y.fn_
  · intro p hp; rw [o81_1] at hp; rw [← hH, en_c (Or.inr (Or.inr (Or.inl rfl))), (ev p (by omega)).1, (er p).2.1, if_pos (by omega)]
  · intro k hk; rw [o81_1] at hk; have z : k < N := (by omega); rw [← hH, en_c (Or.inr (Or.inr (Or.inr (Or.inl rfl)))), (ev k (by omega)).2.2.2, (er k).2.2.2, if_pos z, if_pos z]; have := orr k z; rw [this.1]; exact y.le_ _ (by omega)
  · simp only [o81_1, o94, o9]; exact y.mk_
  · rw [← hH, en_c (Or.inr (Or.inr (Or.inr (Or.inr ⟨rfl, rfl⟩)))), (er 0).1]; exact hs_eq
  · simp only [o81_1, o81_14, q11_1]; exact y.dc_
  · simp only [o81_1, o81_14, o93, o12]; exact y.dd_
  · simp only [o81_1, o81_15, q13_0, q13_1]; exact y.cn_
  · intro r p hr hp; rw [o81_15] at hr; rw [o81_1] at hp; rw [o14, o15, o16, o95, o96, f_top_k o81_1 o95 o96]; exact y.cl_ r p hr hp
  · simp only [o14, o15]; exact y.cr_
  · simp only [o17]; exact y.cc_
  · intro q k hk; rw [o81_1] at hk; rw [o17, o90]; refine y.ce_ ?_ k hk; rw [o81_15] at q; rw [← hH, (er 0).1] at q; exact Or.inr (q.elim (fun z => absurd rfl z) id)
  · simp only [o81_20, q18_3, o97, o98, o99, o19, o20, o21]; exact y.pi_
  · intro q; rw [← hH, (er 0).1] at q; exact absurd rfl q
  · rw [o81_26]; exact (y.fg_.fr q39_1 hbig).cg (fun f hf => figL_c (o102 f) (fun k hk => o103 _))
  · simp only [o81_27, q39_3, o104, o41]; exact y.tx_
  · intro t ht; have := y.tp_ t ht; rw [htp (69 + 2 * t) 0 (by omega) (by omega), htp (69 + 2 * t) 1 (by omega) (by omega), o122, o123]; refine ⟨this.1, this.2.1, fun i hi => ?_⟩; rw [htp (70 + 2 * t) i (by omega) (by omega), o124]; exact this.2.2 i hi
  · intro _ p hp; rw [o81_1] at hp; rw [← hH, (er p).2.1, if_pos (by omega)]
  · simp only [o122, o123]; exact y.sn_
  · intro r p hr hp; rw [o81_15] at hr; rw [o81_1] at hp ⊢; rw [o95]; exact y.ok_ r p hr hp
  · simp only [o100]; exact y.gs_
  · rw [o81_0, o81_26]; exact y.sz_
theorem op_end {τ : TT} {h : HT} (s : SIM τ h) : OPS mX11_end mX12_end 20 0 0 [] τ h := by
  have s0 := s
  obtain ⟨hT, x, y⟩ := s
  have da := y.da_
  have dc := y.dc_
  have d_ := x.d_
  have n9 := x.n9
  refine OPS_f x (x_end h) (fun g => f_end g) (fun d => x_endM (d + 18) τ h hT x y) (fun a i z1 z2 => by unfold x_end; (repeat (first | rfl | (apply (apply_ite (fun z : Int × HT => z.2 a i) _ _ _).trans; split))); exact x_en_o (by omega)) (fun d x1 => m_end (d + 20) τ _ hT x1.n9 x1.d1 x1.ha_) ?_
  show (f_end (x_end h).2).1 = (x_end h).1 ∧ SIM τ (f_end (x_end h).2).2
  unfold x_end
  by_cases g1 : h 0 6 = 0
  · rw [if_pos g1]; show (f_end h).1 = _ ∧ SIM τ (f_end h).2; unfold f_end; rw [if_pos (by omega)]; exact ⟨rfl, s0⟩
  rw [if_neg g1]
  show (f_end (x_en h)).1 = h 11 1 ∧ SIM τ (f_end (x_en h)).2
  have e1 : ∀ k, x_en h 81 k = h 81 k := fun k => x_en_o (by omega)
  have e : f_end (x_en h) = (x_en h 81 14, f_endL2 (f_endL1 (hs_ (x_en h) 81 11 0) (x_en h 81 1).toNat) (x_en h 81 1).toNat) := by
    unfold f_end; rw [if_neg (by rw [e1]; omega)]
  rw [e, e1, e1]
  exact ⟨dc.symm, SIM_end s0 (N := (h 81 1).toNat) (by omega) (by omega)⟩
