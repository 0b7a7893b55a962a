/-! operations: people, the ring -/
theorem SIM.n9 {τ : TT} {h : HT} (s : SIM τ h) : 0 ≤ h 81 1 ∧ h 81 1 ≤ 9 := s.2.1.n9
theorem x_isPlace (d : Nat) (τ : TT) (h : HT) (hT : TK τ) (p : Int) (r_p : -2147483648 ≤ p ∧ p ≤ 2147483647) (hn : 0 ≤ h 6 0 ∧ h 6 0 ≤ 9) : S_ mX11_isPlace d 0 0 [.inr (some 0), .inl p] τ h (Zi τ fun v h' => v = (if 0 ≤ p ∧ p < h 6 0 then 1 else 0) ∧ h' = h) := by
  refine S_go (k := 0) (ls := [some (.inr (some 0)), some (.inl p)]) (by decide) rfl (Nat.le_of_ble_eq_true rfl) rfl ?_
  refine G_iload_n (i := 1) dX11_isPlace_0 rfl rfl ?_
  refine G_if_lt (tgt := 19) dX11_isPlace_1 (by decide) (by omega) (fun c_1 => ?_) (fun c_1 => ?_)
  · refine G_iconst dX11_isPlace_19 ?_
    refine G_zretZ rfl (by decide) dX11_isPlace_20 ?_
    exact ⟨by (repeat (first | rw [if_pos (by omega)] | rw [if_neg (by omega)])), rfl⟩
  · refine G_iload_n (i := 1) dX11_isPlace_4 rfl rfl ?_
    refine G_aload_n (i := 0) dX11_isPlace_5 rfl rfl ?_
    refine G_getR fX11_36 rfl dX11_isPlace_6 (o0 hT) (r0_5 hT) ?_
    refine G_getI (v := h 6 0) fX11_157 rfl dX11_isPlace_9 (o6 hT) rfl ?_
    refine G_icmp_ge (tgt := 19) dX11_isPlace_12 (by decide) (by omega) (by omega) (fun c_2 => ?_) (fun c_2 => ?_)
    · refine G_iconst dX11_isPlace_19 ?_
      refine G_zretZ rfl (by decide) dX11_isPlace_20 ?_
      exact ⟨by (repeat (first | rw [if_pos (by omega)] | rw [if_neg (by omega)])), rfl⟩
    · refine G_iconst dX11_isPlace_15 ?_
      refine G_goto (tgt := 20) dX11_isPlace_16 (by decide) ?_
      refine G_zretZ rfl (by decide) dX11_isPlace_20 ?_
      exact ⟨by (repeat (first | rw [if_pos (by omega)] | rw [if_neg (by omega)])), rfl⟩

def x_ribbon (h : HT) (p c l : Int) : Int × HT := if ¬ (0 ≤ p ∧ p < h 6 0) then (-1, h) else if ¬ ((0 ≤ c ∧ c ≤ 7) ∧ (0 ≤ l ∧ l ≤ 99999)) then (-2, h) else if h 0 6 ≠ 0 then (-3, h) else (1, hs_ (hs_ h 5 p.toNat c) 8 p.toNat l)
theorem x_ribbonM (d : Nat) (τ : TT) (h : HT) (hT : TK τ) (p c l : Int) (r_p : -2147483648 ≤ p ∧ p ≤ 2147483647) (r_c : -2147483648 ≤ c ∧ c ≤ 2147483647) (r_l : -2147483648 ≤ l ∧ l ≤ 2147483647) (hn : 0 ≤ h 6 0 ∧ h 6 0 ≤ 9) (hd : 0 ≤ h 0 6 ∧ h 0 6 ≤ 1) : S_ mX11_ribbon (d + 1) 0 0 [.inr (some 0), .inl p, .inl c, .inl l] τ h (Zi τ fun v h' => v = (x_ribbon h p c l).1 ∧ h' = (x_ribbon h p c l).2) := by
  refine S_go (k := 0) (ls := [some (.inr (some 0)), some (.inl p), some (.inl c), some (.inl l)]) (by decide) rfl (Nat.le_of_ble_eq_true rfl) rfl ?_
  refine G_aload_n (i := 0) dX11_ribbon_0 rfl rfl ?_
  refine G_iload_n (i := 1) dX11_ribbon_1 rfl rfl ?_
  refine G_cVq (as := [.inl p]) qX11_137 (x_isPlace d τ h hT p (by omega) (by omega)) rfl rfl (Nat.le_of_ble_eq_true rfl) (o0 hT) dX11_ribbon_2 ?_
  refine G_ifb_ne (tgt := 10) dX11_ribbon_5 (by decide) (fun c_1 => ?_) (fun c_1 => ?_)
  · refine G_iload_n (i := 2) dX11_ribbon_10 rfl rfl ?_
    refine G_cSq (as := [.inl c]) qX11_147 (x_isColour d τ h c (by omega)) rfl rfl (Nat.le_of_ble_eq_true rfl) dX11_ribbon_11 ?_
    refine G_ifb_eq (tgt := 27) dX11_ribbon_14 (by decide) (fun c_2 => ?_) (fun c_2 => ?_)
    · refine G_bipush dX11_ribbon_27 (by decide) ?_
      refine G_iretZ rfl dX11_ribbon_29 ?_
      unfold x_ribbon; (repeat (first | rw [if_pos (by omega)] | rw [if_neg (by omega)])); exact ⟨rfl, rfl⟩
    · refine G_iload_n (i := 3) dX11_ribbon_17 rfl rfl ?_
      refine G_if_lt (tgt := 27) dX11_ribbon_18 (by decide) (by omega) (fun c_3 => ?_) (fun c_3 => ?_)
      · refine G_bipush dX11_ribbon_27 (by decide) ?_
        refine G_iretZ rfl dX11_ribbon_29 ?_
        unfold x_ribbon; (repeat (first | rw [if_pos (by omega)] | rw [if_neg (by omega)])); exact ⟨rfl, rfl⟩
      · refine G_iload_n (i := 3) dX11_ribbon_21 rfl rfl ?_
        refine G_ldc (n := 99999) nX11_150 dX11_ribbon_22 ?_
        refine G_icmp_le (tgt := 30) dX11_ribbon_24 (by decide) (by omega) (by decide) (fun c_4 => ?_) (fun c_4 => ?_)
        · refine G_aload_n (i := 0) dX11_ribbon_30 rfl rfl ?_
          refine G_getI (v := h 0 6) fX11_40 rfl dX11_ribbon_31 (o0 hT) rfl ?_
          refine G_if_eq (tgt := 40) dX11_ribbon_34 (by decide) (by omega) (fun c_5 => ?_) (fun c_5 => ?_)
          · refine G_aload_n (i := 0) dX11_ribbon_40 rfl rfl ?_
            refine G_getR fX11_30 rfl dX11_ribbon_41 (o0 hT) (r0_4 hT) ?_
            refine G_iload_n (i := 1) dX11_ribbon_44 rfl rfl ?_
            refine G_iload_n (i := 2) dX11_ribbon_45 rfl rfl ?_
            refine G_iastk ((p).toNat) dX11_ribbon_46 (o5 hT) (by omega) rfl ?_
            refine G_aload_n (i := 0) dX11_ribbon_47 rfl rfl ?_
            refine G_getR fX11_36 rfl dX11_ribbon_48 (o0 hT) (r0_5 hT) ?_
            refine G_getR fX11_151 rfl dX11_ribbon_51 (o6 hT) (r6_4 hT) ?_
            refine G_iload_n (i := 1) dX11_ribbon_54 rfl rfl ?_
            refine G_iload_n (i := 3) dX11_ribbon_55 rfl rfl ?_
            refine G_iastk ((p).toNat) dX11_ribbon_56 (o8 hT) (by omega) rfl ?_
            refine G_iconst dX11_ribbon_57 ?_
            refine G_iretZ rfl dX11_ribbon_58 ?_
            unfold x_ribbon; (repeat (first | rw [if_pos (by omega)] | rw [if_neg (by omega)])); exact ⟨rfl, rfl⟩
          · refine G_bipush dX11_ribbon_37 (by decide) ?_
            refine G_iretZ rfl dX11_ribbon_39 ?_
            unfold x_ribbon; (repeat (first | rw [if_pos (by omega)] | rw [if_neg (by omega)])); exact ⟨rfl, rfl⟩
        · refine G_bipush dX11_ribbon_27 (by decide) ?_
          refine G_iretZ rfl dX11_ribbon_29 ?_
          unfold x_ribbon; (repeat (first | rw [if_pos (by omega)] | rw [if_neg (by omega)])); exact ⟨rfl, rfl⟩
  · refine G_iconst dX11_ribbon_8 ?_
    refine G_iretZ rfl dX11_ribbon_9 ?_
    unfold x_ribbon; (repeat (first | rw [if_pos (by omega)] | rw [if_neg (by omega)])); exact ⟨rfl, rfl⟩

theorem SIM_ribbon {τ : TT} {h : HT} (s : SIM τ h) {p c l : Int} (hp : 0 ≤ p ∧ p < h 81 1) (hc : 0 ≤ c ∧ c ≤ 7) (hl : 0 ≤ l ∧ l ≤ 99999) : SIM τ (hs_ (hs_ (hs_ (hs_ h 5 p.toNat c) 8 p.toNat l) 87 p.toNat c) 88 p.toNat l) := by
  obtain ⟨hT, x, y⟩ := s
  generalize hH : (hs_ (hs_ (hs_ (hs_ h 5 p.toNat c) 8 p.toNat l) 87 p.toNat c) 88 p.toNat l) = H
  have o81_0 : H 81 0 = h 81 0 := by rw [← hH]; simp only [hs_, hf_]; (repeat (first | rfl | rw [if_neg (by omega)]))
  have o81_1 : H 81 1 = h 81 1 := by rw [← hH]; simp only [hs_, hf_]; (repeat (first | rfl | rw [if_neg (by omega)]))
  have o81_11 : H 81 11 = h 81 11 := by rw [← hH]; simp only [hs_, hf_]; (repeat (first | rfl | rw [if_neg (by omega)]))
  have o81_14 : H 81 14 = h 81 14 := by rw [← hH]; simp only [hs_, hf_]; (repeat (first | rfl | rw [if_neg (by omega)]))
  have o81_15 : H 81 15 = h 81 15 := by rw [← hH]; simp only [hs_, hf_]; (repeat (first | rfl | rw [if_neg (by omega)]))
  have o81_20 : H 81 20 = h 81 20 := by rw [← hH]; simp only [hs_, hf_]; (repeat (first | rfl | rw [if_neg (by omega)]))
  have o81_26 : H 81 26 = h 81 26 := by rw [← hH]; simp only [hs_, hf_]; (repeat (first | rfl | rw [if_neg (by omega)]))
  have o81_27 : H 81 27 = h 81 27 := by rw [← hH]; simp only [hs_, hf_]; (repeat (first | rfl | rw [if_neg (by omega)]))
  have o81_55 : H 81 55 = h 81 55 := by rw [← hH]; simp only [hs_, hf_]; (repeat (first | rfl | rw [if_neg (by omega)]))
  have q0_1 : H 0 1 = h 0 1 := by rw [← hH]; simp only [hs_, hf_]; (repeat (first | rfl | rw [if_neg (by omega)]))
  have q0_6 : H 0 6 = h 0 6 := by rw [← hH]; simp only [hs_, hf_]; (repeat (first | rfl | rw [if_neg (by omega)]))
  have q2_1 : H 2 1 = h 2 1 := by rw [← hH]; simp only [hs_, hf_]; (repeat (first | rfl | rw [if_neg (by omega)]))
  have q6_0 : H 6 0 = h 6 0 := by rw [← hH]; simp only [hs_, hf_]; (repeat (first | rfl | rw [if_neg (by omega)]))
  have q6_1 : H 6 1 = h 6 1 := by rw [← hH]; simp only [hs_, hf_]; (repeat (first | rfl | rw [if_neg (by omega)]))
  have q6_2 : H 6 2 = h 6 2 := by rw [← hH]; simp only [hs_, hf_]; (repeat (first | rfl | rw [if_neg (by omega)]))
  have q11_1 : H 11 1 = h 11 1 := by rw [← hH]; simp only [hs_, hf_]; (repeat (first | rfl | rw [if_neg (by omega)]))
  have q13_0 : H 13 0 = h 13 0 := by rw [← hH]; simp only [hs_, hf_]; (repeat (first | rfl | rw [if_neg (by omega)]))
  have q13_1 : H 13 1 = h 13 1 := by rw [← hH]; simp only [hs_, hf_]; (repeat (first | rfl | rw [if_neg (by omega)]))
  have q18_3 : H 18 3 = h 18 3 := by rw [← hH]; simp only [hs_, hf_]; (repeat (first | rfl | rw [if_neg (by omega)]))
  have q39_1 : H 39 1 = h 39 1 := by rw [← hH]; simp only [hs_, hf_]; (repeat (first | rfl | rw [if_neg (by omega)]))
  have q39_3 : H 39 3 = h 39 3 := by rw [← hH]; simp only [hs_, hf_]; (repeat (first | rfl | rw [if_neg (by omega)]))
  have o82 : ∀ k, H 82 k = h 82 k := fun k => by rw [← hH]; simp only [hs_, hf_]; (repeat (first | rfl | rw [if_neg (by omega)]))
  have o83 : ∀ k, H 83 k = h 83 k := fun k => by rw [← hH]; simp only [hs_, hf_]; (repeat (first | rfl | rw [if_neg (by omega)]))
  have o84 : ∀ k, H 84 k = h 84 k := fun k => by rw [← hH]; simp only [hs_, hf_]; (repeat (first | rfl | rw [if_neg (by omega)]))
  have o85 : ∀ k, H 85 k = h 85 k := fun k => by rw [← hH]; simp only [hs_, hf_]; (repeat (first | rfl | rw [if_neg (by omega)]))
  have o86 : ∀ k, H 86 k = h 86 k := fun k => by rw [← hH]; simp only [hs_, hf_]; (repeat (first | rfl | rw [if_neg (by omega)]))
  have o89 : ∀ k, H 89 k = h 89 k := fun k => by rw [← hH]; simp only [hs_, hf_]; (repeat (first | rfl | rw [if_neg (by omega)]))
  have o90 : ∀ k, H 90 k = h 90 k := fun k => by rw [← hH]; simp only [hs_, hf_]; (repeat (first | rfl | rw [if_neg (by omega)]))
  have o93 : ∀ k, H 93 k = h 93 k := fun k => by rw [← hH]; simp only [hs_, hf_]; (repeat (first | rfl | rw [if_neg (by omega)]))
  have o94 : ∀ k, H 94 k = h 94 k := fun k => by rw [← hH]; simp only [hs_, hf_]; (repeat (first | rfl | rw [if_neg (by omega)]))
  have o95 : ∀ k, H 95 k = h 95 k := fun k => by rw [← hH]; simp only [hs_, hf_]; (repeat (first | rfl | rw [if_neg (by omega)]))
  have o96 : ∀ k, H 96 k = h 96 k := fun k => by rw [← hH]; simp only [hs_, hf_]; (repeat (first | rfl | rw [if_neg (by omega)]))
  have o97 : ∀ k, H 97 k = h 97 k := fun k => by rw [← hH]; simp only [hs_, hf_]; (repeat (first | rfl | rw [if_neg (by omega)]))
  have o98 : ∀ k, H 98 k = h 98 k := fun k => by rw [← hH]; simp only [hs_, hf_]; (repeat (first | rfl | rw [if_neg (by omega)]))
  have o99 : ∀ k, H 99 k = h 99 k := fun k => by rw [← hH]; simp only [hs_, hf_]; (repeat (first | rfl | rw [if_neg (by omega)]))
  have o102 : ∀ k, H 102 k = h 102 k := fun k => by rw [← hH]; simp only [hs_, hf_]; (repeat (first | rfl | rw [if_neg (by omega)]))
  have o103 : ∀ k, H 103 k = h 103 k := fun k => by rw [← hH]; simp only [hs_, hf_]; (repeat (first | rfl | rw [if_neg (by omega)]))
  have o104 : ∀ k, H 104 k = h 104 k := fun k => by rw [← hH]; simp only [hs_, hf_]; (repeat (first | rfl | rw [if_neg (by omega)]))
  have o122 : ∀ k, H 122 k = h 122 k := fun k => by rw [← hH]; simp only [hs_, hf_]; (repeat (first | rfl | rw [if_neg (by omega)]))
  have o123 : ∀ k, H 123 k = h 123 k := fun k => by rw [← hH]; simp only [hs_, hf_]; (repeat (first | rfl | rw [if_neg (by omega)]))
  have o124 : ∀ k, H 124 k = h 124 k := fun k => by rw [← hH]; simp only [hs_, hf_]; (repeat (first | rfl | rw [if_neg (by omega)]))
  have o3 : ∀ k, H 3 k = h 3 k := fun k => by rw [← hH]; simp only [hs_, hf_]; (repeat (first | rfl | rw [if_neg (by omega)]))
  have o4 : ∀ k, H 4 k = h 4 k := fun k => by rw [← hH]; simp only [hs_, hf_]; (repeat (first | rfl | rw [if_neg (by omega)]))
  have o7 : ∀ k, H 7 k = h 7 k := fun k => by rw [← hH]; simp only [hs_, hf_]; (repeat (first | rfl | rw [if_neg (by omega)]))
  have o9 : ∀ k, H 9 k = h 9 k := fun k => by rw [← hH]; simp only [hs_, hf_]; (repeat (first | rfl | rw [if_neg (by omega)]))
  have o12 : ∀ k, H 12 k = h 12 k := fun k => by rw [← hH]; simp only [hs_, hf_]; (repeat (first | rfl | rw [if_neg (by omega)]))
  have o14 : ∀ k, H 14 k = h 14 k := fun k => by rw [← hH]; simp only [hs_, hf_]; (repeat (first | rfl | rw [if_neg (by omega)]))
  have o15 : ∀ k, H 15 k = h 15 k := fun k => by rw [← hH]; simp only [hs_, hf_]; (repeat (first | rfl | rw [if_neg (by omega)]))
  have o16 : ∀ k, H 16 k = h 16 k := fun k => by rw [← hH]; simp only [hs_, hf_]; (repeat (first | rfl | rw [if_neg (by omega)]))
  have o17 : ∀ k, H 17 k = h 17 k := fun k => by rw [← hH]; simp only [hs_, hf_]; (repeat (first | rfl | rw [if_neg (by omega)]))
  have o19 : ∀ k, H 19 k = h 19 k := fun k => by rw [← hH]; simp only [hs_, hf_]; (repeat (first | rfl | rw [if_neg (by omega)]))
  have o20 : ∀ k, H 20 k = h 20 k := fun k => by rw [← hH]; simp only [hs_, hf_]; (repeat (first | rfl | rw [if_neg (by omega)]))
  have o21 : ∀ k, H 21 k = h 21 k := fun k => by rw [← hH]; simp only [hs_, hf_]; (repeat (first | rfl | rw [if_neg (by omega)]))
  have o41 : ∀ k, H 41 k = h 41 k := fun k => by rw [← hH]; simp only [hs_, hf_]; (repeat (first | rfl | rw [if_neg (by omega)]))
  have o121 : ∀ k, H 121 k = h 121 k := fun k => by rw [← hH]; simp only [hs_, hf_]; (repeat (first | rfl | rw [if_neg (by omega)]))
  have o100 : ∀ k, H 100 k = h 100 k := fun k => by rw [← hH]; simp only [hs_, hf_]; (repeat (first | rfl | rw [if_neg (by omega)]))
  have hbig : ∀ a k : Nat, 126 ≤ a → H a k = h a k := fun a k ha => by rw [← hH]; simp only [hs_, hf_]; (repeat (first | rfl | rw [if_neg (by omega)]))
  have hst : ∀ a k : Nat, 24 ≤ a → a ≤ 27 → H a k = h a k := fun a k ha hb => by rw [← hH]; simp only [hs_, hf_]; (repeat (first | rfl | rw [if_neg (by omega)]))
  have htp : ∀ a k : Nat, 69 ≤ a → a ≤ 80 → H a k = h a k := fun a k ha hb => by rw [← hH]; simp only [hs_, hf_]; (repeat (first | rfl | rw [if_neg (by omega)]))
  refine ⟨hT, ⟨?_, ?_, ?_, ?_, ?_, ?_, ?_, ?_, ?_, ?_, ?_, ?_, ?_, ?_, ?_, ?_, ?_, ?_, ?_, ?_, ?_, ?_, ?_, ?_, ?_, ?_, ?_, ?_, ?_, ?_, ?_, ?_⟩, ⟨?_, ?_, ?_, ?_, ?_, ?_, ?_, ?_, ?_, ?_, ?_, ?_, ?_, ?_, ?_, ?_, ?_, ?_, ?_, ?_, ?_, ?_, ?_, ?_, ?_, ?_, ?_, ?_, ?_⟩⟩
  · simp only [o81_0]; exact x.p_
  · simp only [o81_1]; exact x.n_
  · simp only [o81_1, o81_11]; exact x.d_
  · simp only [o81_1, o81_14]; exact x.s_
  · simp only [o81_1, o81_15]; exact x.r_
  · simp only [o81_20]; exact x.t_
  · simp only [o81_26]; exact x.f_
  · simp only [o81_27]; exact x.e_
  · simp only [o81_55]; exact x.a_
  · simp only [o82]; exact x.ki_
  · simp only [o83]; exact x.re_
  · simp only [o84]; exact x.pa_
  · simp only [o85]; exact x.wh_
  · simp only [o81_1, o86]; exact x.ha_
  · simp only [o81_1, o86]; exact x.hi_
  · intro k hk; rw [← hH]; simp only [hs_]; have := x.co_ k hk; by_cases z : k = p.toNat; (subst z; simp; omega); (simp [z]; omega)
  · intro k hk; rw [← hH]; simp only [hs_]; have := x.le_ k hk; by_cases z : k = p.toNat; (subst z; simp; omega); (simp [z]; omega)
  · simp only [o89]; exact x.be_
  · simp only [o90]; exact x.cc_
  · simp only [o81_1, o81_14, o93]; exact x.st_
  · simp only [o94]; exact x.mk_
  · simp only [o95]; exact x.cr_
  · simp only [o96]; exact x.cm_
  · simp only [o97]; exact x.t7_
  · simp only [o98]; exact x.t8_
  · simp only [o99]; exact x.t9_
  · simp only [o81_26, o102]; exact x.ma_
  · simp only [o81_26, o102, o103]; exact x.to_
  · simp only [o104]; exact x.tx_
  · simp only [o122]; exact x.so_
  · simp only [o123]; exact x.si_
  · simp only [o124]; exact x.it_
  · simp only [o81_0, q0_1]; exact y.pc_
  · intro k hk; rw [o81_0] at hk; obtain ⟨o, p1, p2, p3, p4, p5, p6, p7⟩ := y.pe_ k hk; exact ⟨o, p1, p2, p3, by rw [hbig o 0 p2]; exact p4, by rw [hbig o 1 p2, o82]; exact p5, by rw [hbig o 2 p2, o83]; exact p6, by rw [hbig o 3 p2, o84]; exact p7⟩
  · simp only [o81_55, q2_1]; exact y.ra_
  · simp only [o3, o121]; exact y.tr_
  · simp only [o81_1, o85, o86, o4]; exact y.wh_
  · simp only [o4]; exact y.wr_
  · intro k hk; rw [← hH]; have := y.co_ k hk; simp only [hs_]; by_cases z : k = p.toNat; (subst z; simp); (simp [z]; omega)
  · simp only [o81_1, o81_14, o81_15, q6_0, q6_1, q6_2]; exact y.fn_
  · simp only [o81_1, o86, o7]; exact y.or_
  · intro k hk; rw [o81_1] at hk; rw [← hH]; have := y.le_ k hk; simp only [hs_]; by_cases z : k = p.toNat; (subst z; simp); (simp [z]; omega)
  · simp only [o81_1, o94, o9]; exact y.mk_
  · simp only [o81_1, o81_11, q0_6]; exact y.da_
  · simp only [o81_1, o81_14, q11_1]; exact y.dc_
  · simp only [o81_1, o81_14, o93, o12]; exact y.dd_
  · simp only [o81_1, o81_15, q13_0, q13_1]; exact y.cn_
  · intro r p hr hp; rw [o81_15] at hr; rw [o81_1] at hp; rw [o14, o15, o16, o95, o96, f_top_k o81_1 o95 o96]; exact y.cl_ r p hr hp
  · simp only [o14, o15]; exact y.cr_
  · simp only [o17]; exact y.cc_
  · simp only [o81_1, o81_11, o81_15, o90, o17]; exact y.ce_
  · simp only [o81_20, q18_3, o97, o98, o99, o19, o20, o21]; exact y.pi_
  · intro hd; rw [o81_11] at hd; rw [o81_1, show t_0 H = t_0 h from by unfold t_0; rw [show H 89 = h 89 from funext o89]]; exact (y.sf_ hd).fr (fun b j b1 b2 => hst b j (by omega) (by omega))
  · rw [o81_26]; exact (y.fg_.fr q39_1 hbig).cg (fun f hf => figL_c (o102 f) (fun k hk => o103 _))
  · simp only [o81_27, q39_3, o104, o41]; exact y.tx_
  · intro t ht; have := y.tp_ t ht; rw [htp (69 + 2 * t) 0 (by omega) (by omega), htp (69 + 2 * t) 1 (by omega) (by omega), o122, o123]; refine ⟨this.1, this.2.1, fun i hi => ?_⟩; rw [htp (70 + 2 * t) i (by omega) (by omega), o124]; exact this.2.2 i hi
  · simp only [o81_1, o81_11, o86]; exact y.nd_
  · simp only [o122, o123]; exact y.sn_
  · intro r p hr hp; rw [o81_15] at hr; rw [o81_1] at hp ⊢; rw [o95]; exact y.ok_ r p hr hp
  · simp only [o100]; exact y.gs_
  · rw [o81_0, o81_26]; exact y.sz_
theorem op_ribbon {τ : TT} {h : HT} (s : SIM τ h) (p c l : Int) (r_p : -2147483648 ≤ p ∧ p ≤ 2147483647) (r_c : -2147483648 ≤ c ∧ c ≤ 2147483647) (r_l : -2147483648 ≤ l ∧ l ≤ 2147483647) : OPS mX11_ribbon mX12_ribbon 20 0 0 [.inl p, .inl c, .inl l] τ h := by
  have s0 := s
  obtain ⟨hT, x, y⟩ := s
  have n9 := x.n9
  have d1 := x.d1
  have n_ := x.n_
  have fn := y.fn_
  have da := y.da_
  refine OPS_f x (x_ribbon h p c l) (fun g => f_ribbon g p c l) (fun d => x_ribbonM (d + 19) τ h hT p c l r_p r_c r_l (by omega) (by omega)) (fun a i z1 z2 => by unfold x_ribbon; (repeat (first | rfl | (apply (apply_ite (fun z : Int × HT => z.2 a i) _ _ _).trans; split))); all_goals (simp only [hs_, hf_]; (repeat (first | rfl | rw [if_neg (by omega)])))) (fun d x1 => m_ribbon (d + 18) τ _ hT p c l r_p r_c r_l x1.n9 x1.d1) ?_
  show (f_ribbon (x_ribbon h p c l).2 p c l).1 = (x_ribbon h p c l).1 ∧ SIM τ (f_ribbon (x_ribbon h p c l).2 p c l).2
  unfold x_ribbon
  by_cases g1 : ¬ (0 ≤ p ∧ p < h 6 0)
  · rw [if_pos g1]; show (f_ribbon h p c l).1 = _ ∧ SIM τ (f_ribbon h p c l).2; unfold f_ribbon; rw [if_pos (by omega)]; exact ⟨rfl, s0⟩
  rw [if_neg g1]
  by_cases g2 : ¬ ((0 ≤ c ∧ c ≤ 7) ∧ (0 ≤ l ∧ l ≤ 99999))
  · rw [if_pos g2]; show (f_ribbon h p c l).1 = _ ∧ SIM τ (f_ribbon h p c l).2; unfold f_ribbon; rw [if_neg (by show ¬ ¬ (0 ≤ p ∧ p ≤ h 81 1 - 1); omega), if_pos (by exact g2)]; exact ⟨rfl, s0⟩
  rw [if_neg g2]
  by_cases g3 : h 0 6 ≠ 0
  · rw [if_pos g3]; show (f_ribbon h p c l).1 = _ ∧ SIM τ (f_ribbon h p c l).2; unfold f_ribbon; rw [if_neg (by show ¬ ¬ (0 ≤ p ∧ p ≤ h 81 1 - 1); omega), if_neg (by exact g2), if_pos (by omega)]; exact ⟨rfl, s0⟩
  rw [if_neg g3]
  show (f_ribbon (hs_ (hs_ h 5 p.toNat c) 8 p.toNat l) p c l).1 = 1 ∧ SIM τ (f_ribbon (hs_ (hs_ h 5 p.toNat c) 8 p.toNat l) p c l).2
  unfold f_ribbon
  rw [if_neg (by show ¬ ¬ (0 ≤ p ∧ p ≤ h 81 1 - 1); omega), if_neg (by exact g2), if_neg (by show ¬ h 81 11 ≠ 0; omega)]
  exact ⟨rfl, SIM_ribbon s0 (by omega) (by omega) (by omega)⟩
