/-! operations: person -/
theorem LR_lt {i : Nat} {q : Nat × Nat × Nat} (e : LR_[i]? = some q) : q.1 < 126 ∧ q.1 ≠ 1 ∧ q.1 ≠ 40 := by
  have : ∀ q ∈ LR_, q.1 < 126 ∧ q.1 ≠ 1 ∧ q.1 ≠ 40 := by decide +kernel
  exact this q (List.mem_of_getElem? e)
theorem TK_n {τ : TT} (hT : TK τ) (ht : τ.1 < 800000) (k len : Nat) : TK (tn_ τ k len) := by
  have h0 := hT.1
  refine ⟨show 126 ≤ τ.1 + 1 by omega, show τ.1 + 1 < 900000 by omega, fun a k' q => ?_, fun a k' q => ?_, fun i q e => ?_⟩
  · have l := (List.getElem?_eq_some_iff.mp q).1
    have l2 : LK_.length = 126 := rfl
    show (if a = τ.1 then k else τ.2.1 a) = k'
    rw [if_neg (by omega)]; exact hT.2.2.1 a k' q
  · have l := (List.getElem?_eq_some_iff.mp q).1
    have l2 : LN_.length = 126 := rfl
    show (if a = τ.1 then len else τ.2.2.1 a) = k'
    rw [if_neg (by omega)]; exact hT.2.2.2.1 a k' q
  · have l := LR_lt e
    show (if q.1 = τ.1 then none else τ.2.2.2 q.1 q.2.1) = some q.2.2
    rw [if_neg (by omega)]; exact hT.2.2.2.2 i q e
theorem TK_r {τ : TT} (hT : TK τ) {a : Nat} (ha : a = 1 ∨ a = 40 ∨ 126 ≤ a) (k : Nat) (v : Option Nat) : TK (tr_ τ a k v) := by
  refine ⟨hT.1, hT.2.1, hT.2.2.1, hT.2.2.2.1, fun i q e => ?_⟩
  have l := LR_lt e
  show (if q.1 = a ∧ q.2.1 = k then v else τ.2.2.2 q.1 q.2.1) = some q.2.2
  rw [if_neg (by omega)]; exact hT.2.2.2.2 i q e
theorem ob_n {τ : TT} {a c k len : Nat} (h : ob_ τ a c) : ob_ (tn_ τ k len) a c := by
  have h1 := h.1
  refine ⟨show a < τ.1 + 1 by omega, ?_⟩
  show (if a = τ.1 then k else τ.2.1 a) = c
  rw [if_neg (by omega)]; exact h.2
theorem ob_n0 {τ : TT} {k len : Nat} : ob_ (tn_ τ k len) τ.1 k := ⟨Nat.lt_succ_self _, if_pos rfl⟩
theorem ob_r {τ : TT} {a c b i : Nat} {v : Option Nat} (h : ob_ τ a c) : ob_ (tr_ τ b i v) a c := h
theorem ar_n {τ : TT} {a c n k len : Nat} (h : ar_ τ a c n) : ar_ (tn_ τ k len) a c n := by
  have h1 := h.1
  refine ⟨show a < τ.1 + 1 by omega, ?_, ?_, h.2.2.2⟩
  · show (if a = τ.1 then k else τ.2.1 a) = c
    rw [if_neg (by omega)]; exact h.2.1
  · show (if a = τ.1 then len else τ.2.2.1 a) = n
    rw [if_neg (by omega)]; exact h.2.2.1
theorem ar_n0 {τ : TT} {k len : Nat} (hl : len < 2147483648) : ar_ (tn_ τ k len) τ.1 k len := ⟨Nat.lt_succ_self _, if_pos rfl, if_pos rfl, hl⟩
theorem ST_n {τ : TT} {a L k len : Nat} (h : ST τ a L) : ST (tn_ τ k len) a L := by
  have h1 := h.1.1
  refine ⟨ob_n h.1, ar_n h.2.1, ?_⟩
  show (if a = τ.1 then none else τ.2.2.2 a 0) = some (a + 1)
  rw [if_neg (by omega)]; exact h.2.2
theorem ST_r {τ : TT} {a L b i : Nat} {v : Option Nat} (h : ST τ a L) (ne : b ≠ a) : ST (tr_ τ b i v) a L := by
  refine ⟨h.1, h.2.1, ?_⟩
  show (if a = b ∧ 0 = i then v else τ.2.2.2 a 0) = some (a + 1)
  rw [if_neg (by omega)]; exact h.2.2
theorem x_PInit (d : Nat) (τ : TT) (h : HT) (o : Nat) (n k r a : Int) (ho : ob_ τ o 5) : S_ mX5_init (d + 1) 0 0 [.inr (some o), .inl n, .inl k, .inl r, .inl a] τ h (Zv τ fun h' => h' = (hs_ (hs_ (hs_ (hs_ h o 0 n) o 1 k) o 2 r) o 3 a)) := by
  refine S_go (k := 0) (ls := [some (.inr (some o)), some (.inl n), some (.inl k), some (.inl r), some (.inl a)]) (by decide) rfl (Nat.le_of_ble_eq_true rfl) rfl ?_
  refine G_aload_n (i := 0) dX5_init_0 rfl rfl ?_
  refine G_obj qX5_3 (Nat.le_of_ble_eq_true rfl) dX5_init_1 ?_
  refine G_aload_n (i := 0) dX5_init_4 rfl rfl ?_
  refine G_iload_n (i := 1) dX5_init_5 rfl rfl ?_
  refine G_putFI fX5_9 ⟨rfl, rfl⟩ dX5_init_6 ho ?_
  refine G_aload_n (i := 0) dX5_init_9 rfl rfl ?_
  refine G_iload_n (i := 2) dX5_init_10 rfl rfl ?_
  refine G_putFI fX5_15 ⟨rfl, rfl⟩ dX5_init_11 ho ?_
  refine G_aload_n (i := 0) dX5_init_14 rfl rfl ?_
  refine G_iload_n (i := 3) dX5_init_15 rfl rfl ?_
  refine G_putFI fX5_18 ⟨rfl, rfl⟩ dX5_init_16 ho ?_
  refine G_aload_n (i := 0) dX5_init_19 rfl rfl ?_
  refine G_iload (i := 4) dX5_init_20 rfl ?_
  refine G_putFI fX5_21 ⟨rfl, rfl⟩ dX5_init_22 ho ?_
  exact G_vretZ rfl dX5_init_25 rfl
theorem x_personM (d : Nat) (τ : TT) (h : HT) (hT : TK τ) (x : MI h) (y : XR τ h) (k r a : Int) (r_k : -2147483648 ≤ k ∧ k ≤ 2147483647) (r_r : -2147483648 ≤ r ∧ r ≤ 2147483647) (r_a : -2147483648 ≤ a ∧ a ≤ 2147483647) : S_ mX11_person (d + 2) 1 4 [.inr (some 0), .inl k, .inl r, .inl a] τ h (fun r_ τ1 h1 => (¬ ((0 ≤ k ∧ k ≤ 4) ∧ (1 ≤ r ∧ r ≤ 20) ∧ (1 ≤ a ∧ a ≤ 9)) → r_ = some (.inl (-2)) ∧ τ1 = τ ∧ h1 = h) ∧ (((0 ≤ k ∧ k ≤ 4) ∧ (1 ≤ r ∧ r ≤ 20) ∧ (1 ≤ a ∧ a ≤ 9)) → 15 ≤ h 0 1 → r_ = some (.inl (-4)) ∧ τ1 = τ ∧ h1 = h) ∧ (((0 ≤ k ∧ k ≤ 4) ∧ (1 ≤ r ∧ r ≤ 20) ∧ (1 ≤ a ∧ a ≤ 9)) → h 0 1 < 15 → r_ = some (.inl (h 0 1)) ∧ τ1 = (tr_ (tn_ τ 5 0) 1 (h 0 1).toNat (some τ.1)) ∧ h1 = (hs_ (hs_ (hs_ (hs_ (hs_ (hn_ τ h) τ.1 0 (h 0 1)) τ.1 1 k) τ.1 2 r) τ.1 3 a) 0 1 (h 0 1 + 1)))) := by
  have n9 := x.n9
  have d1 := x.d1
  have n_ := x.n_
  have fn := y.fn_
  have da := y.da_
  have cn := y.cn_
  have r_r_ := x.r_
  have s_s_ := x.s_
  have dc := y.dc_
  have pc := y.pc_
  have pp := x.p_
  have fgc := y.fg_.1
  have f10 := x.f_
  have ra := y.ra_
  have a100 := x.a_
  have pic := y.pi_
  have t40 := x.t_
  have txx := y.tx_
  have e80 := x.e_
  have T0 := hT.1
  have sz := y.sz_
  refine S_go (k := 1) (ls := [some (.inr (some 0)), some (.inl k), some (.inl r), some (.inl a), none]) (by decide) rfl (Nat.le_of_ble_eq_true rfl) rfl ?_
  refine G_iload_n (i := 1) dX11_person_0 rfl rfl ?_
  refine G_if_lt (tgt := 31) dX11_person_1 (by decide) (by omega) (fun c_1 => ?_) (fun c_1 => ?_)
  · refine G_bipush dX11_person_31 (by decide) ?_
    refine G_iret rfl dX11_person_33 ?_
    exact ⟨fun _ => ⟨rfl, rfl, rfl⟩, fun q => absurd q (by omega), fun q => absurd q (by omega)⟩
  · refine G_iload_n (i := 1) dX11_person_4 rfl rfl ?_
    refine G_iconst dX11_person_5 ?_
    refine G_icmp_ge (tgt := 31) dX11_person_6 (by decide) (by omega) (by decide) (fun c_2 => ?_) (fun c_2 => ?_)
    · refine G_bipush dX11_person_31 (by decide) ?_
      refine G_iret rfl dX11_person_33 ?_
      exact ⟨fun _ => ⟨rfl, rfl, rfl⟩, fun q => absurd q (by omega), fun q => absurd q (by omega)⟩
    · refine G_iload_n (i := 2) dX11_person_9 rfl rfl ?_
      refine G_iconst dX11_person_10 ?_
      refine G_icmp_lt (tgt := 31) dX11_person_11 (by decide) (by omega) (by decide) (fun c_3 => ?_) (fun c_3 => ?_)
      · refine G_bipush dX11_person_31 (by decide) ?_
        refine G_iret rfl dX11_person_33 ?_
        exact ⟨fun _ => ⟨rfl, rfl, rfl⟩, fun q => absurd q (by omega), fun q => absurd q (by omega)⟩
      · refine G_iload_n (i := 2) dX11_person_14 rfl rfl ?_
        refine G_bipush dX11_person_15 (by decide) ?_
        refine G_icmp_gt (tgt := 31) dX11_person_17 (by decide) (by omega) (by decide) (fun c_4 => ?_) (fun c_4 => ?_)
        · refine G_bipush dX11_person_31 (by decide) ?_
          refine G_iret rfl dX11_person_33 ?_
          exact ⟨fun _ => ⟨rfl, rfl, rfl⟩, fun q => absurd q (by omega), fun q => absurd q (by omega)⟩
        · refine G_iload_n (i := 3) dX11_person_20 rfl rfl ?_
          refine G_iconst dX11_person_21 ?_
          refine G_icmp_lt (tgt := 31) dX11_person_22 (by decide) (by omega) (by decide) (fun c_5 => ?_) (fun c_5 => ?_)
          · refine G_bipush dX11_person_31 (by decide) ?_
            refine G_iret rfl dX11_person_33 ?_
            exact ⟨fun _ => ⟨rfl, rfl, rfl⟩, fun q => absurd q (by omega), fun q => absurd q (by omega)⟩
          · refine G_iload_n (i := 3) dX11_person_25 rfl rfl ?_
            refine G_bipush dX11_person_26 (by decide) ?_
            refine G_icmp_le (tgt := 34) dX11_person_28 (by decide) (by omega) (by decide) (fun c_6 => ?_) (fun c_6 => ?_)
            · refine G_aload_n (i := 0) dX11_person_34 rfl rfl ?_
              refine G_getI (v := h 0 1) fX11_15 rfl dX11_person_35 (o0 hT) rfl ?_
              refine G_bipush dX11_person_38 (by decide) ?_
              refine G_icmp_lt (tgt := 46) dX11_person_40 (by decide) (by omega) (by decide) (fun c_7 => ?_) (fun c_7 => ?_)
              · refine G_aload_n (i := 0) dX11_person_46 rfl rfl ?_
                refine G_getI (v := h 0 1) fX11_15 rfl dX11_person_47 (o0 hT) rfl ?_
                refine G_istore (ls' := [some (.inr (some 0)), some (.inl k), some (.inl r), some (.inl a), some (.inl (h 0 1))]) dX11_person_50 (by decide) rfl ?_
                refine G_aload_n (i := 0) dX11_person_52 rfl rfl ?_
                refine G_getR fX11_11 rfl dX11_person_53 (o0 hT) (r0_0 hT) ?_
                refine G_iload dX11_person_56 rfl ?_
                refine G_new (bc := 0) (bs := 0) cl5 kX11_9 (by decide) (by omega) dX11_person_58 ?_
                refine G_dup dX11_person_61 ?_
                refine G_iload (i := 4) dX11_person_62 rfl ?_
                refine G_iload_n (i := 1) dX11_person_64 rfl rfl ?_
                refine G_iload_n (i := 2) dX11_person_65 rfl rfl ?_
                refine G_iload_n (i := 3) dX11_person_66 rfl rfl ?_
                refine G_callI (bc := 0) (bs := 0) (as := [.inl (h 0 1), .inl k, .inl r, .inl a]) qX11_114 (x_PInit d (tn_ τ 5 0) (hn_ τ h) τ.1 (h 0 1) k r a ob_n0) rfl rfl (Nat.le_of_ble_eq_true rfl) dX11_person_67 (fun r_ τ' h' e' => ?_)
                obtain ⟨rfl, rfl, rfl⟩ := e'
                have hT1 := TK_n hT (by omega) 5 0
                refine G_aast (ci := 15) (co := 5) (Or.inl ⟨rfl, rfl⟩) rfl dX11_person_70 (o1 hT1) ob_n0 (by omega) ?_
                have hT2 := TK_r hT1 (a := 1) (Or.inl rfl) (h 0 1).toNat (some τ.1)
                refine G_aload_n (i := 0) dX11_person_71 rfl rfl ?_
                refine G_dup dX11_person_72 ?_
                refine G_getI (v := h 0 1) fX11_15 rfl dX11_person_73 (o0 hT2) (by unfold hs_ hn_; (repeat (first | rw [if_pos (by omega)] | rw [if_neg (by omega)]))) ?_
                refine G_iconst dX11_person_76 ?_
                refine G_iadd dX11_person_77 ?_
                refine G_putI fX11_15 dX11_person_78 (o0 hT2) ?_
                refine G_iload (i := 4) dX11_person_81 rfl ?_
                refine G_iret rfl dX11_person_83 ?_
                exact ⟨fun q => absurd (show ((0 ≤ k ∧ k ≤ 4) ∧ (1 ≤ r ∧ r ≤ 20) ∧ (1 ≤ a ∧ a ≤ 9)) by omega) q, fun _ q => absurd q (by omega), fun _ _ => ⟨rfl, rfl, rfl⟩⟩
              · refine G_bipush dX11_person_43 (by decide) ?_
                refine G_iret rfl dX11_person_45 ?_
                exact ⟨fun q => absurd (show ((0 ≤ k ∧ k ≤ 4) ∧ (1 ≤ r ∧ r ≤ 20) ∧ (1 ≤ a ∧ a ≤ 9)) by omega) q, fun _ _ => ⟨rfl, rfl, rfl⟩, fun _ q => absurd q (by omega)⟩
            · refine G_bipush dX11_person_31 (by decide) ?_
              refine G_iret rfl dX11_person_33 ?_
              exact ⟨fun _ => ⟨rfl, rfl, rfl⟩, fun q => absurd q (by omega), fun q => absurd q (by omega)⟩

theorem sim_person {τ : TT} {h : HT} (s : SIM τ h) (k r a : Int) (v : ((0 ≤ k ∧ k ≤ 4) ∧ (1 ≤ r ∧ r ≤ 20) ∧ (1 ≤ a ∧ a ≤ 9))) (c : h 81 0 < 15) : SIM (tr_ (tn_ τ 5 0) 1 (h 0 1).toNat (some τ.1)) (hs_ (hs_ (hs_ (hs_ (hs_ (hs_ (hs_ (hs_ (hs_ (hn_ τ h) τ.1 0 (h 0 1)) τ.1 1 k) τ.1 2 r) τ.1 3 a) 0 1 (h 0 1 + 1)) 82 (h 81 0).toNat k) 83 (h 81 0).toNat r) 84 (h 81 0).toNat a) 81 0 (h 81 0 + 1)) := by
  obtain ⟨hT, x, y⟩ := s
  have T0 := hT.1
  have sz := y.sz_
  have pc := y.pc_
  have p0 := x.p_
  have f10 := x.f_
  generalize hH : (hs_ (hs_ (hs_ (hs_ (hs_ (hs_ (hs_ (hs_ (hs_ (hn_ τ h) τ.1 0 (h 0 1)) τ.1 1 k) τ.1 2 r) τ.1 3 a) 0 1 (h 0 1 + 1)) 82 (h 81 0).toNat k) 83 (h 81 0).toNat r) 84 (h 81 0).toNat a) 81 0 (h 81 0 + 1)) = H
  have o81_1 : H 81 1 = h 81 1 := by rw [← hH]; simp only [hs_, hf_, hn_]; (repeat (first | rfl | rw [if_neg (by omega)]))
  have o81_11 : H 81 11 = h 81 11 := by rw [← hH]; simp only [hs_, hf_, hn_]; (repeat (first | rfl | rw [if_neg (by omega)]))
  have o81_14 : H 81 14 = h 81 14 := by rw [← hH]; simp only [hs_, hf_, hn_]; (repeat (first | rfl | rw [if_neg (by omega)]))
  have o81_15 : H 81 15 = h 81 15 := by rw [← hH]; simp only [hs_, hf_, hn_]; (repeat (first | rfl | rw [if_neg (by omega)]))
  have o81_20 : H 81 20 = h 81 20 := by rw [← hH]; simp only [hs_, hf_, hn_]; (repeat (first | rfl | rw [if_neg (by omega)]))
  have o81_26 : H 81 26 = h 81 26 := by rw [← hH]; simp only [hs_, hf_, hn_]; (repeat (first | rfl | rw [if_neg (by omega)]))
  have o81_27 : H 81 27 = h 81 27 := by rw [← hH]; simp only [hs_, hf_, hn_]; (repeat (first | rfl | rw [if_neg (by omega)]))
  have o81_55 : H 81 55 = h 81 55 := by rw [← hH]; simp only [hs_, hf_, hn_]; (repeat (first | rfl | rw [if_neg (by omega)]))
  have q0_6 : H 0 6 = h 0 6 := by rw [← hH]; simp only [hs_, hf_, hn_]; (repeat (first | rfl | rw [if_neg (by omega)]))
  have q2_1 : H 2 1 = h 2 1 := by rw [← hH]; simp only [hs_, hf_, hn_]; (repeat (first | rfl | rw [if_neg (by omega)]))
  have q6_0 : H 6 0 = h 6 0 := by rw [← hH]; simp only [hs_, hf_, hn_]; (repeat (first | rfl | rw [if_neg (by omega)]))
  have q6_1 : H 6 1 = h 6 1 := by rw [← hH]; simp only [hs_, hf_, hn_]; (repeat (first | rfl | rw [if_neg (by omega)]))
  have q6_2 : H 6 2 = h 6 2 := by rw [← hH]; simp only [hs_, hf_, hn_]; (repeat (first | rfl | rw [if_neg (by omega)]))
  have q11_1 : H 11 1 = h 11 1 := by rw [← hH]; simp only [hs_, hf_, hn_]; (repeat (first | rfl | rw [if_neg (by omega)]))
  have q13_0 : H 13 0 = h 13 0 := by rw [← hH]; simp only [hs_, hf_, hn_]; (repeat (first | rfl | rw [if_neg (by omega)]))
  have q13_1 : H 13 1 = h 13 1 := by rw [← hH]; simp only [hs_, hf_, hn_]; (repeat (first | rfl | rw [if_neg (by omega)]))
  have q18_3 : H 18 3 = h 18 3 := by rw [← hH]; simp only [hs_, hf_, hn_]; (repeat (first | rfl | rw [if_neg (by omega)]))
  have q39_1 : H 39 1 = h 39 1 := by rw [← hH]; simp only [hs_, hf_, hn_]; (repeat (first | rfl | rw [if_neg (by omega)]))
  have q39_3 : H 39 3 = h 39 3 := by rw [← hH]; simp only [hs_, hf_, hn_]; (repeat (first | rfl | rw [if_neg (by omega)]))
  have o85 : ∀ k, H 85 k = h 85 k := fun k => by rw [← hH]; simp only [hs_, hf_, hn_]; (repeat (first | rfl | rw [if_neg (by omega)]))
  have o86 : ∀ k, H 86 k = h 86 k := fun k => by rw [← hH]; simp only [hs_, hf_, hn_]; (repeat (first | rfl | rw [if_neg (by omega)]))
  have o87 : ∀ k, H 87 k = h 87 k := fun k => by rw [← hH]; simp only [hs_, hf_, hn_]; (repeat (first | rfl | rw [if_neg (by omega)]))
  have o88 : ∀ k, H 88 k = h 88 k := fun k => by rw [← hH]; simp only [hs_, hf_, hn_]; (repeat (first | rfl | rw [if_neg (by omega)]))
  have o89 : ∀ k, H 89 k = h 89 k := fun k => by rw [← hH]; simp only [hs_, hf_, hn_]; (repeat (first | rfl | rw [if_neg (by omega)]))
  have o90 : ∀ k, H 90 k = h 90 k := fun k => by rw [← hH]; simp only [hs_, hf_, hn_]; (repeat (first | rfl | rw [if_neg (by omega)]))
  have o93 : ∀ k, H 93 k = h 93 k := fun k => by rw [← hH]; simp only [hs_, hf_, hn_]; (repeat (first | rfl | rw [if_neg (by omega)]))
  have o94 : ∀ k, H 94 k = h 94 k := fun k => by rw [← hH]; simp only [hs_, hf_, hn_]; (repeat (first | rfl | rw [if_neg (by omega)]))
  have o95 : ∀ k, H 95 k = h 95 k := fun k => by rw [← hH]; simp only [hs_, hf_, hn_]; (repeat (first | rfl | rw [if_neg (by omega)]))
  have o96 : ∀ k, H 96 k = h 96 k := fun k => by rw [← hH]; simp only [hs_, hf_, hn_]; (repeat (first | rfl | rw [if_neg (by omega)]))
  have o97 : ∀ k, H 97 k = h 97 k := fun k => by rw [← hH]; simp only [hs_, hf_, hn_]; (repeat (first | rfl | rw [if_neg (by omega)]))
  have o98 : ∀ k, H 98 k = h 98 k := fun k => by rw [← hH]; simp only [hs_, hf_, hn_]; (repeat (first | rfl | rw [if_neg (by omega)]))
  have o99 : ∀ k, H 99 k = h 99 k := fun k => by rw [← hH]; simp only [hs_, hf_, hn_]; (repeat (first | rfl | rw [if_neg (by omega)]))
  have o102 : ∀ k, H 102 k = h 102 k := fun k => by rw [← hH]; simp only [hs_, hf_, hn_]; (repeat (first | rfl | rw [if_neg (by omega)]))
  have o103 : ∀ k, H 103 k = h 103 k := fun k => by rw [← hH]; simp only [hs_, hf_, hn_]; (repeat (first | rfl | rw [if_neg (by omega)]))
  have o104 : ∀ k, H 104 k = h 104 k := fun k => by rw [← hH]; simp only [hs_, hf_, hn_]; (repeat (first | rfl | rw [if_neg (by omega)]))
  have o122 : ∀ k, H 122 k = h 122 k := fun k => by rw [← hH]; simp only [hs_, hf_, hn_]; (repeat (first | rfl | rw [if_neg (by omega)]))
  have o123 : ∀ k, H 123 k = h 123 k := fun k => by rw [← hH]; simp only [hs_, hf_, hn_]; (repeat (first | rfl | rw [if_neg (by omega)]))
  have o124 : ∀ k, H 124 k = h 124 k := fun k => by rw [← hH]; simp only [hs_, hf_, hn_]; (repeat (first | rfl | rw [if_neg (by omega)]))
  have o3 : ∀ k, H 3 k = h 3 k := fun k => by rw [← hH]; simp only [hs_, hf_, hn_]; (repeat (first | rfl | rw [if_neg (by omega)]))
  have o4 : ∀ k, H 4 k = h 4 k := fun k => by rw [← hH]; simp only [hs_, hf_, hn_]; (repeat (first | rfl | rw [if_neg (by omega)]))
  have o5 : ∀ k, H 5 k = h 5 k := fun k => by rw [← hH]; simp only [hs_, hf_, hn_]; (repeat (first | rfl | rw [if_neg (by omega)]))
  have o7 : ∀ k, H 7 k = h 7 k := fun k => by rw [← hH]; simp only [hs_, hf_, hn_]; (repeat (first | rfl | rw [if_neg (by omega)]))
  have o8 : ∀ k, H 8 k = h 8 k := fun k => by rw [← hH]; simp only [hs_, hf_, hn_]; (repeat (first | rfl | rw [if_neg (by omega)]))
  have o9 : ∀ k, H 9 k = h 9 k := fun k => by rw [← hH]; simp only [hs_, hf_, hn_]; (repeat (first | rfl | rw [if_neg (by omega)]))
  have o12 : ∀ k, H 12 k = h 12 k := fun k => by rw [← hH]; simp only [hs_, hf_, hn_]; (repeat (first | rfl | rw [if_neg (by omega)]))
  have o14 : ∀ k, H 14 k = h 14 k := fun k => by rw [← hH]; simp only [hs_, hf_, hn_]; (repeat (first | rfl | rw [if_neg (by omega)]))
  have o15 : ∀ k, H 15 k = h 15 k := fun k => by rw [← hH]; simp only [hs_, hf_, hn_]; (repeat (first | rfl | rw [if_neg (by omega)]))
  have o16 : ∀ k, H 16 k = h 16 k := fun k => by rw [← hH]; simp only [hs_, hf_, hn_]; (repeat (first | rfl | rw [if_neg (by omega)]))
  have o17 : ∀ k, H 17 k = h 17 k := fun k => by rw [← hH]; simp only [hs_, hf_, hn_]; (repeat (first | rfl | rw [if_neg (by omega)]))
  have o19 : ∀ k, H 19 k = h 19 k := fun k => by rw [← hH]; simp only [hs_, hf_, hn_]; (repeat (first | rfl | rw [if_neg (by omega)]))
  have o20 : ∀ k, H 20 k = h 20 k := fun k => by rw [← hH]; simp only [hs_, hf_, hn_]; (repeat (first | rfl | rw [if_neg (by omega)]))
  have o21 : ∀ k, H 21 k = h 21 k := fun k => by rw [← hH]; simp only [hs_, hf_, hn_]; (repeat (first | rfl | rw [if_neg (by omega)]))
  have o41 : ∀ k, H 41 k = h 41 k := fun k => by rw [← hH]; simp only [hs_, hf_, hn_]; (repeat (first | rfl | rw [if_neg (by omega)]))
  have o121 : ∀ k, H 121 k = h 121 k := fun k => by rw [← hH]; simp only [hs_, hf_, hn_]; (repeat (first | rfl | rw [if_neg (by omega)]))
  have o100 : ∀ k, H 100 k = h 100 k := fun k => by rw [← hH]; simp only [hs_, hf_, hn_]; (repeat (first | rfl | rw [if_neg (by omega)]))
  have hbg : ∀ a k : Nat, 126 ≤ a → a ≠ τ.1 → H a k = h a k := fun a k ha hb => by rw [← hH]; simp only [hs_, hf_, hn_]; (repeat (first | rfl | rw [if_neg (by omega)]))
  have hst : ∀ a k : Nat, 24 ≤ a → a ≤ 27 → H a k = h a k := fun a k ha hb => by rw [← hH]; simp only [hs_, hf_, hn_]; (repeat (first | rfl | rw [if_neg (by omega)]))
  have htp : ∀ a k : Nat, 69 ≤ a → a ≤ 80 → H a k = h a k := fun a k ha hb => by rw [← hH]; simp only [hs_, hf_, hn_]; (repeat (first | rfl | rw [if_neg (by omega)]))
  refine ⟨?_, ⟨?_, ?_, ?_, ?_, ?_, ?_, ?_, ?_, ?_, ?_, ?_, ?_, ?_, ?_, ?_, ?_, ?_, ?_, ?_, ?_, ?_, ?_, ?_, ?_, ?_, ?_, ?_, ?_, ?_, ?_, ?_, ?_⟩, ⟨?_, ?_, ?_, ?_, ?_, ?_, ?_, ?_, ?_, ?_, ?_, ?_, ?_, ?_, ?_, ?_, ?_, ?_, ?_, ?_, ?_, ?_, ?_, ?_, ?_, ?_, ?_, ?_, ?_⟩⟩
  · exact TK_r (TK_n hT (by omega) 5 0) (a := 1) (Or.inl rfl) _ _
  · have e : H 81 0 = h 81 0 + 1 := by rw [← hH]; simp only [hs_, hf_, hn_]; (repeat (first | rfl | rw [if_pos (by omega)] | rw [if_neg (by omega)]))
    rw [e]; omega
  · simp only [o81_1]; exact x.n_
  · simp only [o81_1, o81_11]; exact x.d_
  · simp only [o81_1, o81_14]; exact x.s_
  · simp only [o81_1, o81_15]; exact x.r_
  · simp only [o81_20]; exact x.t_
  · simp only [o81_26]; exact x.f_
  · simp only [o81_27]; exact x.e_
  · simp only [o81_55]; exact x.a_
  · intro i hi
    have z := x.ki_ i hi
    have e : H 82 i = if i = (h 81 0).toNat then k else h 82 i := by
      rw [← hH]; unfold hs_ hn_
      by_cases q : i = (h 81 0).toNat
      · rw [if_pos q]; (repeat (first | rfl | rw [if_pos (by omega)] | rw [if_neg (by omega)]))
      · rw [if_neg q]; (repeat (first | rfl | rw [if_neg (by omega)]))
    rw [e]; split <;> omega
  · intro i hi
    have z := x.re_ i hi
    have e : H 83 i = if i = (h 81 0).toNat then r else h 83 i := by
      rw [← hH]; unfold hs_ hn_
      by_cases q : i = (h 81 0).toNat
      · rw [if_pos q]; (repeat (first | rfl | rw [if_pos (by omega)] | rw [if_neg (by omega)]))
      · rw [if_neg q]; (repeat (first | rfl | rw [if_neg (by omega)]))
    rw [e]; split <;> omega
  · intro i hi
    have z := x.pa_ i hi
    have e : H 84 i = if i = (h 81 0).toNat then a else h 84 i := by
      rw [← hH]; unfold hs_ hn_
      by_cases q : i = (h 81 0).toNat
      · rw [if_pos q]; (repeat (first | rfl | rw [if_pos (by omega)] | rw [if_neg (by omega)]))
      · rw [if_neg q]; (repeat (first | rfl | rw [if_neg (by omega)]))
    rw [e]; split <;> omega
  · simp only [o85]; exact x.wh_
  · simp only [o81_1, o86]; exact x.ha_
  · simp only [o81_1, o86]; exact x.hi_
  · simp only [o87]; exact x.co_
  · simp only [o88]; exact x.le_
  · simp only [o89]; exact x.be_
  · simp only [o90]; exact x.cc_
  · simp only [o81_1, o81_14, o93]; exact x.st_
  · simp only [o94]; exact x.mk_
  · simp only [o95]; exact x.cr_
  · simp only [o96]; exact x.cm_
  · simp only [o97]; exact x.t7_
  · simp only [o98]; exact x.t8_
  · simp only [o99]; exact x.t9_
  · simp only [o81_26, o102]; exact x.ma_
  · simp only [o81_26, o102, o103]; exact x.to_
  · simp only [o104]; exact x.tx_
  · simp only [o122]; exact x.so_
  · simp only [o123]; exact x.si_
  · simp only [o124]; exact x.it_
  · have e : H 81 0 = h 81 0 + 1 := by rw [← hH]; simp only [hs_, hf_, hn_]; (repeat (first | rfl | rw [if_pos (by omega)] | rw [if_neg (by omega)]))
    have e2 : H 0 1 = h 0 1 + 1 := by rw [← hH]; simp only [hs_, hf_, hn_]; (repeat (first | rfl | rw [if_pos (by omega)] | rw [if_neg (by omega)]))
    omega
  · intro i hi
    have e : H 81 0 = h 81 0 + 1 := by rw [← hH]; simp only [hs_, hf_, hn_]; (repeat (first | rfl | rw [if_pos (by omega)] | rw [if_neg (by omega)]))
    rw [e] at hi
    have e8 : ∀ (c : Nat) (v : Int), (c = 82 ∧ v = k) ∨ (c = 83 ∧ v = r) ∨ (c = 84 ∧ v = a) → H c i = if i = (h 81 0).toNat then v else h c i := fun c v hc => by
      rw [← hH]; simp only [hs_, hn_]
      by_cases q : i = (h 81 0).toNat
      · rw [if_pos q]; rcases hc with ⟨rfl, rfl⟩ | ⟨rfl, rfl⟩ | ⟨rfl, rfl⟩ <;> (repeat (first | rfl | rw [if_pos (by omega)] | rw [if_neg (by omega)]))
      · rw [if_neg q]; (repeat (first | rfl | rw [if_neg (by omega)]))
    rw [e8 82 k (by simp), e8 83 r (by simp), e8 84 a (by simp)]
    by_cases q : i = (h 81 0).toNat
    · rw [if_pos q, if_pos q, if_pos q]
      refine ⟨τ.1, ?_, T0, ob_r ob_n0, ?_, ?_, ?_, ?_⟩
      · show (if 1 = 1 ∧ i = (h 0 1).toNat then some τ.1 else _) = some τ.1
        rw [if_pos (by omega)]
      · rw [show (i : Int) = h 0 1 by omega]; rw [← hH]; simp only [hs_, hf_, hn_]; (repeat (first | rfl | rw [if_pos (by omega)] | rw [if_neg (by omega)]))
      · rw [← hH]; simp only [hs_, hf_, hn_]; (repeat (first | rfl | rw [if_pos (by omega)] | rw [if_neg (by omega)]))
      · rw [← hH]; simp only [hs_, hf_, hn_]; (repeat (first | rfl | rw [if_pos (by omega)] | rw [if_neg (by omega)]))
      · rw [← hH]; simp only [hs_, hf_, hn_]; (repeat (first | rfl | rw [if_pos (by omega)] | rw [if_neg (by omega)]))
    · rw [if_neg q, if_neg q, if_neg q]
      obtain ⟨o, p1, p2, p3, p4, p5, p6, p7⟩ := y.pe_ i (by omega)
      have pt := p3.1
      refine ⟨o, ?_, p2, ob_r (ob_n p3), by rw [hbg o 0 p2 (by omega)]; exact p4, by rw [hbg o 1 p2 (by omega)]; exact p5, by rw [hbg o 2 p2 (by omega)]; exact p6, by rw [hbg o 3 p2 (by omega)]; exact p7⟩
      show (if 1 = 1 ∧ i = (h 0 1).toNat then some τ.1 else if 1 = τ.1 then none else τ.2.2.2 1 i) = some o
      rw [if_neg (by omega), if_neg (by omega)]; exact p1
  · simp only [o81_55, q2_1]; exact y.ra_
  · simp only [o3, o121]; exact y.tr_
  · simp only [o81_1, o85, o86, o4]; exact y.wh_
  · simp only [o4]; exact y.wr_
  · simp only [o87, o5]; exact y.co_
  · simp only [o81_1, o81_14, o81_15, q6_0, q6_1, q6_2]; exact y.fn_
  · simp only [o81_1, o86, o7]; exact y.or_
  · simp only [o81_1, o88, o8]; exact y.le_
  · simp only [o81_1, o94, o9]; exact y.mk_
  · simp only [o81_1, o81_11, q0_6]; exact y.da_
  · simp only [o81_1, o81_14, q11_1]; exact y.dc_
  · simp only [o81_1, o81_14, o93, o12]; exact y.dd_
  · simp only [o81_1, o81_15, q13_0, q13_1]; exact y.cn_
  · intro r p hr hp; rw [o81_15] at hr; rw [o81_1] at hp; rw [o14, o15, o16, o95, o96, f_top_k o81_1 o95 o96]; exact y.cl_ r p hr hp
  · simp only [o14, o15]; exact y.cr_
  · simp only [o17]; exact y.cc_
  · simp only [o81_1, o81_11, o81_15, o90, o17]; exact y.ce_
  · simp only [o81_20, q18_3, o97, o98, o99, o19, o20, o21]; exact y.pi_
  · intro hd; rw [o81_11] at hd; rw [o81_1, show t_0 H = t_0 h from by unfold t_0; rw [show H 89 = h 89 from funext o89]]; exact (y.sf_ hd).fr (fun b j b1 b2 => hst b j (by omega) (by omega))
  · rw [o81_26]; refine FGS.cg (fig := figL h) ?_ (fun f hf => figL_c (o102 f) (fun k hk => o103 _))
    obtain ⟨g1, g2, g3⟩ := y.fg_
    refine ⟨by rw [q39_1]; exact g1, g2, fun f hf => ?_⟩
    obtain ⟨b, L, b1, b2, b3, b4, b5, b6⟩ := g3 f hf
    have bt := b3.2.1.1
    refine ⟨b, L, ?_, b2, ST_r (ST_n b3) (by omega), b4, by rw [hbg b 1 b2 (by omega)]; exact b5, by rw [stL_c (hbg b 1 b2 (by omega)) (fun k => hbg (b + 1) k (by omega) (by omega))]; exact b6⟩
    show (if 40 = 1 ∧ f = (h 0 1).toNat then some τ.1 else if 40 = τ.1 then none else τ.2.2.2 40 f) = some b
    rw [if_neg (by omega), if_neg (by omega)]; exact b1
  · simp only [o81_27, q39_3, o104, o41]; exact y.tx_
  · intro t ht; have := y.tp_ t ht; rw [htp (69 + 2 * t) 0 (by omega) (by omega), htp (69 + 2 * t) 1 (by omega) (by omega), o122, o123]; refine ⟨this.1, this.2.1, fun i hi => ?_⟩; rw [htp (70 + 2 * t) i (by omega) (by omega), o124]; exact this.2.2 i hi
  · simp only [o81_1, o81_11, o86]; exact y.nd_
  · simp only [o122, o123]; exact y.sn_
  · intro r p hr hp; rw [o81_15] at hr; rw [o81_1] at hp ⊢; rw [o95]; exact y.ok_ r p hr hp
  · simp only [o100]; exact y.gs_
  · have e : H 81 0 = h 81 0 + 1 := by rw [← hH]; simp only [hs_, hf_, hn_]; (repeat (first | rfl | rw [if_pos (by omega)] | rw [if_neg (by omega)]))
    rw [e, o81_26]; show ((τ.1 + 1 : Nat) : Int) = _; omega
theorem op_person {τ : TT} {h : HT} (s : SIM τ h) (k r a : Int) (r_k : -2147483648 ≤ k ∧ k ≤ 2147483647) (r_r : -2147483648 ≤ r ∧ r ≤ 2147483647) (r_a : -2147483648 ≤ a ∧ a ≤ 2147483647) : OPS mX11_person mX12_person 20 1 4 [.inl k, .inl r, .inl a] τ h := by
  intro d
  have T0 := s.1.1
  have sz := s.2.2.sz_
  have pc := s.2.2.pc_
  have p0 := s.2.1.p_
  have f10 := s.2.1.f_
  refine S_mono ?_ (x_personM (d + 18) τ h s.1 s.2.1 s.2.2 k r a r_k r_r r_a)
  rintro r_ τ1 h1 ⟨z1, z2, z3⟩
  by_cases v : ((0 ≤ k ∧ k ≤ 4) ∧ (1 ≤ r ∧ r ≤ 20) ∧ (1 ≤ a ∧ a ≤ 9))
  · by_cases c : h 0 1 < 15
    · obtain ⟨rfl, rfl, rfl⟩ := z3 v c
      have e0 : (hs_ (hs_ (hs_ (hs_ (hs_ (hn_ τ h) τ.1 0 (h 0 1)) τ.1 1 k) τ.1 2 r) τ.1 3 a) 0 1 (h 0 1 + 1)) 81 0 = h 81 0 := by simp only [hs_, hf_, hn_]; (repeat (first | rfl | rw [if_neg (by omega)]))
      have hT2 := TK_r (TK_n s.1 (by omega) 5 0) (a := 1) (Or.inl rfl) (h 0 1).toNat (some τ.1)
      refine ⟨h 0 1, rfl, hT2, fun e => ?_⟩
      refine S_mono ?_ (m_person (e + 19) _ _ hT2 k r a r_k r_r r_a (by rw [e0]; exact p0))
      rintro r2 τ2 h2 ⟨rfl, w, rfl, q1, q2⟩
      unfold f_person at q1 q2
      rw [if_neg (fun q => q v), e0, if_neg (by omega)] at q1 q2
      refine ⟨by rw [q1, pc], ?_⟩
      rw [q2]
      exact sim_person s k r a v (by omega)
    · obtain ⟨rfl, rfl, rfl⟩ := z2 v (by omega)
      refine ⟨-4, rfl, s.1, fun e => S_mono ?_ (m_person (e + 19) τ1 h1 s.1 k r a r_k r_r r_a p0)⟩
      rintro r2 τ2 h2 ⟨rfl, w, rfl, q1, q2⟩
      unfold f_person at q1 q2
      rw [if_neg (fun q => q v), if_pos (by omega)] at q1 q2
      exact ⟨by rw [q1], by rw [q2]; exact s⟩
  · obtain ⟨rfl, rfl, rfl⟩ := z1 v
    refine ⟨-2, rfl, s.1, fun e => S_mono ?_ (m_person (e + 19) τ1 h1 s.1 k r a r_k r_r r_a p0)⟩
    rintro r2 τ2 h2 ⟨rfl, w, rfl, q1, q2⟩
    unfold f_person at q1 q2
    rw [if_pos v] at q1 q2
    exact ⟨by rw [q1], by rw [q2]; exact s⟩
