/-! operations: tapes -/
def x_tape (h : HT) (t s k : Int) : Int × HT := if ¬ (0 ≤ t ∧ t < 6) then (-1, h) else if s = -1 then (1, hs_ (hs_ h (69 + 2 * t.toNat) 0 (-1)) (69 + 2 * t.toNat) 1 0) else if ¬ (0 ≤ s ∧ s ≤ 4) ∨ 60 < k then (-2, h) else if k < 0 then (-14, h) else (1, hf_ (hs_ (hs_ h (69 + 2 * t.toNat) 0 s) (69 + 2 * t.toNat) 1 k) (69 + 2 * t.toNat + 1) 0 60 (fun _ => 0))
def x_item (h : HT) (t i v : Int) : Int × HT := if ¬ (0 ≤ t ∧ t < 6) then (-1, h) else if h (69 + 2 * t.toNat) 0 = -1 then (-11, h) else if ¬ (0 ≤ i ∧ i < h (69 + 2 * t.toNat) 1) then (-13, h) else (1, hs_ h (69 + 2 * t.toNat + 1) i.toNat (x_cut (h (69 + 2 * t.toNat) 0) v))
def x_shift (h : HT) (t i o j k : Int) : Int × HT := if ¬ ((0 ≤ t ∧ t < 6) ∧ (0 ≤ o ∧ o < 6)) then (-1, h) else if h (69 + 2 * t.toNat) 0 = -1 ∨ h (69 + 2 * o.toNat) 0 = -1 then (-11, h) else if ¬ h (69 + 2 * t.toNat) 0 = h (69 + 2 * o.toNat) 0 then (-12, h) else if ¬ ((0 ≤ k ∧ 0 ≤ i ∧ k ≤ h (69 + 2 * t.toNat) 1 ∧ i ≤ h (69 + 2 * t.toNat) 1 - k) ∧ (0 ≤ k ∧ 0 ≤ j ∧ k ≤ h (69 + 2 * o.toNat) 1 ∧ j ≤ h (69 + 2 * o.toNat) 1 - k)) then (-13, h) else (k, hf_ h (69 + 2 * o.toNat + 1) j.toNat (j.toNat + k.toNat) (fun q => h (69 + 2 * t.toNat + 1) (i.toNat + (q - j.toNat))))
theorem x_tapeM (d : Nat) (τ : TT) (h : HT) (hT : TK τ) (x : MI h) (y : XR τ h) (t s k : Int) (r_t : -2147483648 ≤ t ∧ t ≤ 2147483647) (r_s : -2147483648 ≤ s ∧ s ≤ 2147483647) (r_k : -2147483648 ≤ k ∧ k ≤ 2147483647) : S_ mX11_tape (d + 2) 0 0 [.inr (some 0), .inl t, .inl s, .inl k] τ h (Zi τ fun v h' => v = (x_tape h t s k).1 ∧ h' = (x_tape h t s k).2) := by
  have n9 := x.n9
  have d1 := x.d1
  have n_ := x.n_
  have fn := y.fn_
  have da := y.da_
  have cn := y.cn_
  have r_r_ := x.r_
  have s_s_ := x.s_
  have dc := y.dc_
  have pc := y.pc_
  have pp := x.p_
  have fgc := y.fg_.1
  have f10 := x.f_
  have ra := y.ra_
  have a100 := x.a_
  have pic := y.pi_
  have t40 := x.t_
  have txx := y.tx_
  have e80 := x.e_
  refine S_go (k := 1) (ls := [some (.inr (some 0)), some (.inl t), some (.inl s), some (.inl k), none]) (by decide) rfl (Nat.le_of_ble_eq_true rfl) rfl ?_
  refine G_aload_n (i := 0) dX11_tape_0 rfl rfl ?_
  refine G_iload_n (i := 1) dX11_tape_1 rfl rfl ?_
  refine G_cVr (as := [.inl t]) qX11_278 (x_tapeAt (d + 1) τ h hT t (by omega)) rfl rfl (Nat.le_of_ble_eq_true rfl) (o0 hT) dX11_tape_2 (fun x' h' e' => ?_)
  obtain ⟨rfl, eh'⟩ := e'
  rw [eh']
  clear eh'
  by_cases hb : 0 ≤ t ∧ t < 6
  · rw [if_pos hb]
    obtain ⟨b, b1, b2, b3⟩ := tape_ref hT (T := (t).toNat) (by omega)
    rw [b2]
    have bt := y.tp_ (t).toNat (by omega)
    rw [show 69 + 2 * (t).toNat = b from b1.symm, show 70 + 2 * (t).toNat = b + 1 by omega] at bt
    have bs := x.si_ (t).toNat (by omega)
    have bo := x.so_ (t).toNat (by omega)
    have bn := y.sn_ (t).toNat (by omega)
    refine G_astore (ls' := [some (.inr (some 0)), some (.inl t), some (.inl s), some (.inl k), some (.inr (some b))]) dX11_tape_5 (by decide) rfl ?_
    refine G_aload dX11_tape_7 rfl ?_
    refine G_ifnonnullS (tgt := 14) dX11_tape_9 (by decide) ?_
    refine G_iload_n (i := 2) dX11_tape_14 rfl rfl ?_
    refine G_iconst dX11_tape_15 ?_
    refine G_icmp_ne (tgt := 26) dX11_tape_16 (by decide) (by omega) (by decide) (fun c_1 => ?_) (fun c_1 => ?_)
    · refine G_iload_n (i := 2) dX11_tape_26 rfl rfl ?_
      refine G_if_lt (tgt := 41) dX11_tape_27 (by decide) (by omega) (fun c_2 => ?_) (fun c_2 => ?_)
      · refine G_bipush dX11_tape_41 (by decide) ?_
        refine G_iretZ rfl dX11_tape_43 ?_
        subst b1; unfold x_tape; (repeat (first | rw [if_pos (by omega)] | rw [if_neg (by omega)])); exact ⟨rfl, rfl⟩
      · refine G_iload_n (i := 2) dX11_tape_30 rfl rfl ?_
        refine G_iconst dX11_tape_31 ?_
        refine G_icmp_gt (tgt := 41) dX11_tape_32 (by decide) (by omega) (by decide) (fun c_3 => ?_) (fun c_3 => ?_)
        · refine G_bipush dX11_tape_41 (by decide) ?_
          refine G_iretZ rfl dX11_tape_43 ?_
          subst b1; unfold x_tape; (repeat (first | rw [if_pos (by omega)] | rw [if_neg (by omega)])); exact ⟨rfl, rfl⟩
        · refine G_iload_n (i := 3) dX11_tape_35 rfl rfl ?_
          refine G_bipush dX11_tape_36 (by decide) ?_
          refine G_icmp_le (tgt := 44) dX11_tape_38 (by decide) (by omega) (by decide) (fun c_4 => ?_) (fun c_4 => ?_)
          · refine G_iload_n (i := 3) dX11_tape_44 rfl rfl ?_
            refine G_if_ge (tgt := 51) dX11_tape_45 (by decide) (by omega) (fun c_5 => ?_) (fun c_5 => ?_)
            · refine G_aload dX11_tape_51 rfl ?_
              refine G_iload_n (i := 2) dX11_tape_53 rfl rfl ?_
              refine G_iload_n (i := 3) dX11_tape_54 rfl rfl ?_
              refine G_cVv (as := [.inl s, .inl k]) qX11_329 (x_become d τ h b b3 s k) rfl rfl (Nat.le_of_ble_eq_true rfl) b3.1 dX11_tape_55 (fun h' e' => ?_)
              subst e'
              refine G_iconst dX11_tape_58 ?_
              refine G_iretZ rfl dX11_tape_59 ?_
              subst b1; unfold x_tape; (repeat (first | rw [if_pos (by omega)] | rw [if_neg (by omega)])); exact ⟨rfl, rfl⟩
            · refine G_bipush dX11_tape_48 (by decide) ?_
              refine G_iretZ rfl dX11_tape_50 ?_
              subst b1; unfold x_tape; (repeat (first | rw [if_pos (by omega)] | rw [if_neg (by omega)])); exact ⟨rfl, rfl⟩
          · refine G_bipush dX11_tape_41 (by decide) ?_
            refine G_iretZ rfl dX11_tape_43 ?_
            subst b1; unfold x_tape; (repeat (first | rw [if_pos (by omega)] | rw [if_neg (by omega)])); exact ⟨rfl, rfl⟩
    · refine G_aload dX11_tape_19 rfl ?_
      refine G_cVv (as := []) qX11_326 (x_empty (d + 1) τ h b b3) rfl rfl (Nat.le_of_ble_eq_true rfl) b3.1 dX11_tape_21 (fun h' e' => ?_)
      subst e'
      refine G_iconst dX11_tape_24 ?_
      refine G_iretZ rfl dX11_tape_25 ?_
      subst b1; unfold x_tape; (repeat (first | rw [if_pos (by omega)] | rw [if_neg (by omega)])); exact ⟨rfl, rfl⟩
  · rw [if_neg hb]
    refine G_astore (ls' := [some (.inr (some 0)), some (.inl t), some (.inl s), some (.inl k), some (.inr none)]) dX11_tape_5 (by decide) rfl ?_
    refine G_aload dX11_tape_7 rfl ?_
    refine G_ifnonnullN dX11_tape_9 ?_
    refine G_iconst dX11_tape_12 ?_
    refine G_iretZ rfl dX11_tape_13 ?_
    unfold x_tape; (repeat (first | rw [if_pos (by omega)] | rw [if_neg (by omega)])); exact ⟨rfl, rfl⟩

theorem x_itemM (d : Nat) (τ : TT) (h : HT) (hT : TK τ) (x : MI h) (y : XR τ h) (t i v : Int) (r_t : -2147483648 ≤ t ∧ t ≤ 2147483647) (r_i : -2147483648 ≤ i ∧ i ≤ 2147483647) (r_v : -2147483648 ≤ v ∧ v ≤ 2147483647) : S_ mX11_item (d + 1) 0 0 [.inr (some 0), .inl t, .inl i, .inl v] τ h (Zi τ fun r h' => r = (x_item h t i v).1 ∧ h' = (x_item h t i v).2) := by
  have n9 := x.n9
  have d1 := x.d1
  have n_ := x.n_
  have fn := y.fn_
  have da := y.da_
  have cn := y.cn_
  have r_r_ := x.r_
  have s_s_ := x.s_
  have dc := y.dc_
  have pc := y.pc_
  have pp := x.p_
  have fgc := y.fg_.1
  have f10 := x.f_
  have ra := y.ra_
  have a100 := x.a_
  have pic := y.pi_
  have t40 := x.t_
  have txx := y.tx_
  have e80 := x.e_
  refine S_go (k := 1) (ls := [some (.inr (some 0)), some (.inl t), some (.inl i), some (.inl v), none]) (by decide) rfl (Nat.le_of_ble_eq_true rfl) rfl ?_
  refine G_aload_n (i := 0) dX11_item_0 rfl rfl ?_
  refine G_iload_n (i := 1) dX11_item_1 rfl rfl ?_
  refine G_cVr (as := [.inl t]) qX11_278 (x_tapeAt d τ h hT t (by omega)) rfl rfl (Nat.le_of_ble_eq_true rfl) (o0 hT) dX11_item_2 (fun x' h' e' => ?_)
  obtain ⟨rfl, eh'⟩ := e'
  rw [eh']
  clear eh'
  by_cases hb : 0 ≤ t ∧ t < 6
  · rw [if_pos hb]
    obtain ⟨b, b1, b2, b3⟩ := tape_ref hT (T := (t).toNat) (by omega)
    rw [b2]
    have bt := y.tp_ (t).toNat (by omega)
    rw [show 69 + 2 * (t).toNat = b from b1.symm, show 70 + 2 * (t).toNat = b + 1 by omega] at bt
    have bs := x.si_ (t).toNat (by omega)
    have bo := x.so_ (t).toNat (by omega)
    have bn := y.sn_ (t).toNat (by omega)
    refine G_astore (ls' := [some (.inr (some 0)), some (.inl t), some (.inl i), some (.inl v), some (.inr (some b))]) dX11_item_5 (by decide) rfl ?_
    refine G_aload dX11_item_7 rfl ?_
    refine G_ifnonnullS (tgt := 14) dX11_item_9 (by decide) ?_
    refine G_aload dX11_item_14 rfl ?_
    refine G_getI (v := h b 0) fX11_282 rfl dX11_item_16 b3.1 rfl ?_
    refine G_iconst dX11_item_19 ?_
    refine G_icmp_ne (tgt := 26) dX11_item_20 (by decide) (by omega) (by decide) (fun c_1 => ?_) (fun c_1 => ?_)
    · refine G_iload_n (i := 2) dX11_item_26 rfl rfl ?_
      refine G_if_lt (tgt := 39) dX11_item_27 (by decide) (by omega) (fun c_2 => ?_) (fun c_2 => ?_)
      · refine G_bipush dX11_item_39 (by decide) ?_
        refine G_iretZ rfl dX11_item_41 ?_
        subst b1; unfold x_item; (repeat (first | rw [if_pos (by omega)] | rw [if_neg (by omega)])); exact ⟨rfl, rfl⟩
      · refine G_iload_n (i := 2) dX11_item_30 rfl rfl ?_
        refine G_aload dX11_item_31 rfl ?_
        refine G_getI (v := h b 1) fX11_285 rfl dX11_item_33 b3.1 rfl ?_
        refine G_icmp_lt (tgt := 42) dX11_item_36 (by decide) (by omega) (by omega) (fun c_3 => ?_) (fun c_3 => ?_)
        · refine G_aload dX11_item_42 rfl ?_
          refine G_getR fX11_286 rfl dX11_item_44 b3.1 b3.2.2 ?_
          refine G_iload_n (i := 2) dX11_item_47 rfl rfl ?_
          refine G_aload dX11_item_48 rfl ?_
          refine G_iload_n (i := 3) dX11_item_50 rfl rfl ?_
          refine G_cVq (as := [.inl v]) qX11_333 (x_cutM d τ h b b3 v (by omega) (by omega)) rfl rfl (Nat.le_of_ble_eq_true rfl) b3.1 dX11_item_51 ?_
          refine G_iastk ((i).toNat) dX11_item_54 b3.2.1 (by omega) rfl ?_
          refine G_iconst dX11_item_55 ?_
          refine G_iretZ rfl dX11_item_56 ?_
          subst b1; unfold x_item; (repeat (first | rw [if_pos (by omega)] | rw [if_neg (by omega)])); exact ⟨rfl, rfl⟩
        · refine G_bipush dX11_item_39 (by decide) ?_
          refine G_iretZ rfl dX11_item_41 ?_
          subst b1; unfold x_item; (repeat (first | rw [if_pos (by omega)] | rw [if_neg (by omega)])); exact ⟨rfl, rfl⟩
    · refine G_bipush dX11_item_23 (by decide) ?_
      refine G_iretZ rfl dX11_item_25 ?_
      subst b1; unfold x_item; (repeat (first | rw [if_pos (by omega)] | rw [if_neg (by omega)])); exact ⟨rfl, rfl⟩
  · rw [if_neg hb]
    refine G_astore (ls' := [some (.inr (some 0)), some (.inl t), some (.inl i), some (.inl v), some (.inr none)]) dX11_item_5 (by decide) rfl ?_
    refine G_aload dX11_item_7 rfl ?_
    refine G_ifnonnullN dX11_item_9 ?_
    refine G_iconst dX11_item_12 ?_
    refine G_iretZ rfl dX11_item_13 ?_
    unfold x_item; (repeat (first | rw [if_pos (by omega)] | rw [if_neg (by omega)])); exact ⟨rfl, rfl⟩

theorem x_shiftM (d : Nat) (τ : TT) (h : HT) (hT : TK τ) (x : MI h) (y : XR τ h) (t i o j k : Int) (r_t : -2147483648 ≤ t ∧ t ≤ 2147483647) (r_i : -2147483648 ≤ i ∧ i ≤ 2147483647) (r_o : -2147483648 ≤ o ∧ o ≤ 2147483647) (r_j : -2147483648 ≤ j ∧ j ≤ 2147483647) (r_k : -2147483648 ≤ k ∧ k ≤ 2147483647) : S_ mX11_shift (d + 1) 0 0 [.inr (some 0), .inl t, .inl i, .inl o, .inl j, .inl k] τ h (Zi τ fun v h' => v = (x_shift h t i o j k).1 ∧ h' = (x_shift h t i o j k).2) := by
  have n9 := x.n9
  have d1 := x.d1
  have n_ := x.n_
  have fn := y.fn_
  have da := y.da_
  have cn := y.cn_
  have r_r_ := x.r_
  have s_s_ := x.s_
  have dc := y.dc_
  have pc := y.pc_
  have pp := x.p_
  have fgc := y.fg_.1
  have f10 := x.f_
  have ra := y.ra_
  have a100 := x.a_
  have pic := y.pi_
  have t40 := x.t_
  have txx := y.tx_
  have e80 := x.e_
  refine S_go (k := 2) (ls := [some (.inr (some 0)), some (.inl t), some (.inl i), some (.inl o), some (.inl j), some (.inl k), none, none]) (by decide) rfl (Nat.le_of_ble_eq_true rfl) rfl ?_
  refine G_aload_n (i := 0) dX11_shift_0 rfl rfl ?_
  refine G_iload_n (i := 1) dX11_shift_1 rfl rfl ?_
  refine G_cVr (as := [.inl t]) qX11_278 (x_tapeAt d τ h hT t (by omega)) rfl rfl (Nat.le_of_ble_eq_true rfl) (o0 hT) dX11_shift_2 (fun x' h' e' => ?_)
  obtain ⟨rfl, eh'⟩ := e'
  rw [eh']
  clear eh'
  by_cases hb : 0 ≤ t ∧ t < 6
  · rw [if_pos hb]
    obtain ⟨b, b1, b2, b3⟩ := tape_ref hT (T := (t).toNat) (by omega)
    rw [b2]
    have bt := y.tp_ (t).toNat (by omega)
    rw [show 69 + 2 * (t).toNat = b from b1.symm, show 70 + 2 * (t).toNat = b + 1 by omega] at bt
    have bs := x.si_ (t).toNat (by omega)
    have bo := x.so_ (t).toNat (by omega)
    have bn := y.sn_ (t).toNat (by omega)
    refine G_astore (ls' := [some (.inr (some 0)), some (.inl t), some (.inl i), some (.inl o), some (.inl j), some (.inl k), some (.inr (some b)), none]) dX11_shift_5 (by decide) rfl ?_
    refine G_aload_n (i := 0) dX11_shift_7 rfl rfl ?_
    refine G_iload_n (i := 3) dX11_shift_8 rfl rfl ?_
    refine G_cVr (as := [.inl o]) qX11_278 (x_tapeAt d τ h hT o (by omega)) rfl rfl (Nat.le_of_ble_eq_true rfl) (o0 hT) dX11_shift_9 (fun x' h' e' => ?_)
    obtain ⟨rfl, eh'⟩ := e'
    rw [eh']
    clear eh'
    by_cases hb_ : 0 ≤ o ∧ o < 6
    · rw [if_pos hb_]
      obtain ⟨b_, b_1, b_2, b_3⟩ := tape_ref hT (T := (o).toNat) (by omega)
      rw [b_2]
      have b_t := y.tp_ (o).toNat (by omega)
      rw [show 69 + 2 * (o).toNat = b_ from b_1.symm, show 70 + 2 * (o).toNat = b_ + 1 by omega] at b_t
      have b_s := x.si_ (o).toNat (by omega)
      have b_o := x.so_ (o).toNat (by omega)
      have b_n := y.sn_ (o).toNat (by omega)
      refine G_astore (ls' := [some (.inr (some 0)), some (.inl t), some (.inl i), some (.inl o), some (.inl j), some (.inl k), some (.inr (some b)), some (.inr (some b_))]) dX11_shift_12 (by decide) rfl ?_
      refine G_aload dX11_shift_14 rfl ?_
      refine G_ifnullS dX11_shift_16 ?_
      refine G_aload dX11_shift_19 rfl ?_
      refine G_ifnonnullS (tgt := 26) dX11_shift_21 (by decide) ?_
      refine G_aload dX11_shift_26 rfl ?_
      refine G_getI (v := h b 0) fX11_282 rfl dX11_shift_28 b3.1 rfl ?_
      refine G_iconst dX11_shift_31 ?_
      refine G_icmp_eq (tgt := 44) dX11_shift_32 (by decide) (by omega) (by decide) (fun c_1 => ?_) (fun c_1 => ?_)
      · refine G_bipush dX11_shift_44 (by decide) ?_
        refine G_iretZ rfl dX11_shift_46 ?_
        subst b1; subst b_1; unfold x_shift; (repeat (first | rw [if_pos (by omega)] | rw [if_neg (by omega)])); exact ⟨rfl, rfl⟩
      · refine G_aload dX11_shift_35 rfl ?_
        refine G_getI (v := h b_ 0) fX11_282 rfl dX11_shift_37 b_3.1 rfl ?_
        refine G_iconst dX11_shift_40 ?_
        refine G_icmp_ne (tgt := 47) dX11_shift_41 (by decide) (by omega) (by decide) (fun c_2 => ?_) (fun c_2 => ?_)
        · refine G_aload dX11_shift_47 rfl ?_
          refine G_getI (v := h b 0) fX11_282 rfl dX11_shift_49 b3.1 rfl ?_
          refine G_aload dX11_shift_52 rfl ?_
          refine G_getI (v := h b_ 0) fX11_282 rfl dX11_shift_54 b_3.1 rfl ?_
          refine G_icmp_eq (tgt := 63) dX11_shift_57 (by decide) (by omega) (by omega) (fun c_3 => ?_) (fun c_3 => ?_)
          · refine G_aload dX11_shift_63 rfl ?_
            refine G_iload_n (i := 2) dX11_shift_65 rfl rfl ?_
            refine G_iload dX11_shift_66 rfl ?_
            refine G_cVq (as := [.inl i, .inl k]) qX11_337 (x_holds d τ h b b3 i k (by omega) (by omega) (by omega)) rfl rfl (Nat.le_of_ble_eq_true rfl) b3.1 dX11_shift_68 ?_
            refine G_ifb_eq (tgt := 86) dX11_shift_71 (by decide) (fun c_4 => ?_) (fun c_4 => ?_)
            · refine G_bipush dX11_shift_86 (by decide) ?_
              refine G_iretZ rfl dX11_shift_88 ?_
              subst b1; subst b_1; unfold x_shift; (repeat (first | rw [if_pos (by omega)] | rw [if_neg (by omega)])); exact ⟨rfl, rfl⟩
            · refine G_aload dX11_shift_74 rfl ?_
              refine G_iload dX11_shift_76 rfl ?_
              refine G_iload dX11_shift_78 rfl ?_
              refine G_cVq (as := [.inl j, .inl k]) qX11_337 (x_holds d τ h b_ b_3 j k (by omega) (by omega) (by omega)) rfl rfl (Nat.le_of_ble_eq_true rfl) b_3.1 dX11_shift_80 ?_
              refine G_ifb_ne (tgt := 89) dX11_shift_83 (by decide) (fun c_5 => ?_) (fun c_5 => ?_)
              · refine G_aload dX11_shift_89 rfl ?_
                refine G_getR fX11_286 rfl dX11_shift_91 b3.1 b3.2.2 ?_
                refine G_iload_n (i := 2) dX11_shift_94 rfl rfl ?_
                refine G_aload dX11_shift_95 rfl ?_
                refine G_getR fX11_286 rfl dX11_shift_97 b_3.1 b_3.2.2 ?_
                refine G_iload dX11_shift_100 rfl ?_
                refine G_iload dX11_shift_102 rfl ?_
                refine G_copyk ((i).toNat) ((j).toNat) ((k).toNat) qX11_340 (Nat.le_of_ble_eq_true rfl) dX11_shift_104 b3.2.1 b_3.2.1 (by omega) (by omega) (by omega) (by omega) (by omega) rfl rfl rfl ?_
                refine G_iload dX11_shift_107 rfl ?_
                refine G_iretZ rfl dX11_shift_109 ?_
                subst b1; subst b_1; unfold x_shift; (repeat (first | rw [if_pos (by omega)] | rw [if_neg (by omega)])); exact ⟨rfl, rfl⟩
              · refine G_bipush dX11_shift_86 (by decide) ?_
                refine G_iretZ rfl dX11_shift_88 ?_
                subst b1; subst b_1; unfold x_shift; (repeat (first | rw [if_pos (by omega)] | rw [if_neg (by omega)])); exact ⟨rfl, rfl⟩
          · refine G_bipush dX11_shift_60 (by decide) ?_
            refine G_iretZ rfl dX11_shift_62 ?_
            subst b1; subst b_1; unfold x_shift; (repeat (first | rw [if_pos (by omega)] | rw [if_neg (by omega)])); exact ⟨rfl, rfl⟩
        · refine G_bipush dX11_shift_44 (by decide) ?_
          refine G_iretZ rfl dX11_shift_46 ?_
          subst b1; subst b_1; unfold x_shift; (repeat (first | rw [if_pos (by omega)] | rw [if_neg (by omega)])); exact ⟨rfl, rfl⟩
    · rw [if_neg hb_]
      refine G_astore (ls' := [some (.inr (some 0)), some (.inl t), some (.inl i), some (.inl o), some (.inl j), some (.inl k), some (.inr (some b)), some (.inr none)]) dX11_shift_12 (by decide) rfl ?_
      refine G_aload dX11_shift_14 rfl ?_
      refine G_ifnullS dX11_shift_16 ?_
      refine G_aload dX11_shift_19 rfl ?_
      refine G_ifnonnullN dX11_shift_21 ?_
      refine G_iconst dX11_shift_24 ?_
      refine G_iretZ rfl dX11_shift_25 ?_
      subst b1; unfold x_shift; (repeat (first | rw [if_pos (by omega)] | rw [if_neg (by omega)])); exact ⟨rfl, rfl⟩
  · rw [if_neg hb]
    refine G_astore (ls' := [some (.inr (some 0)), some (.inl t), some (.inl i), some (.inl o), some (.inl j), some (.inl k), some (.inr none), none]) dX11_shift_5 (by decide) rfl ?_
    refine G_aload_n (i := 0) dX11_shift_7 rfl rfl ?_
    refine G_iload_n (i := 3) dX11_shift_8 rfl rfl ?_
    refine G_cVr (as := [.inl o]) qX11_278 (x_tapeAt d τ h hT o (by omega)) rfl rfl (Nat.le_of_ble_eq_true rfl) (o0 hT) dX11_shift_9 (fun x' h' e' => ?_)
    obtain ⟨rfl, eh'⟩ := e'
    rw [eh']
    clear eh'
    by_cases hb_ : 0 ≤ o ∧ o < 6
    · rw [if_pos hb_]
      obtain ⟨b_, b_1, b_2, b_3⟩ := tape_ref hT (T := (o).toNat) (by omega)
      rw [b_2]
      have b_t := y.tp_ (o).toNat (by omega)
      rw [show 69 + 2 * (o).toNat = b_ from b_1.symm, show 70 + 2 * (o).toNat = b_ + 1 by omega] at b_t
      have b_s := x.si_ (o).toNat (by omega)
      have b_o := x.so_ (o).toNat (by omega)
      have b_n := y.sn_ (o).toNat (by omega)
      refine G_astore (ls' := [some (.inr (some 0)), some (.inl t), some (.inl i), some (.inl o), some (.inl j), some (.inl k), some (.inr none), some (.inr (some b_))]) dX11_shift_12 (by decide) rfl ?_
      refine G_aload dX11_shift_14 rfl ?_
      refine G_ifnullN (tgt := 24) dX11_shift_16 (by decide) ?_
      refine G_iconst dX11_shift_24 ?_
      refine G_iretZ rfl dX11_shift_25 ?_
      subst b_1; unfold x_shift; (repeat (first | rw [if_pos (by omega)] | rw [if_neg (by omega)])); exact ⟨rfl, rfl⟩
    · rw [if_neg hb_]
      refine G_astore (ls' := [some (.inr (some 0)), some (.inl t), some (.inl i), some (.inl o), some (.inl j), some (.inl k), some (.inr none), some (.inr none)]) dX11_shift_12 (by decide) rfl ?_
      refine G_aload dX11_shift_14 rfl ?_
      refine G_ifnullN (tgt := 24) dX11_shift_16 (by decide) ?_
      refine G_iconst dX11_shift_24 ?_
      refine G_iretZ rfl dX11_shift_25 ?_
      unfold x_shift; (repeat (first | rw [if_pos (by omega)] | rw [if_neg (by omega)])); exact ⟨rfl, rfl⟩

theorem SIM_tapeE {τ : TT} {h : HT} (s : SIM τ h) {T : Nat} (hTT : T < 6) : SIM τ (hf_ (hs_ (hs_ (hs_ (hs_ h (69 + 2 * T) 0 (-1)) (69 + 2 * T) 1 0) 122 T (-1)) 123 T 0) 124 (60 * T) (60 * T + 60) (fun _ => 0)) := by
  obtain ⟨hT, x, y⟩ := s
  generalize hH : (hf_ (hs_ (hs_ (hs_ (hs_ h (69 + 2 * T) 0 (-1)) (69 + 2 * T) 1 0) 122 T (-1)) 123 T 0) 124 (60 * T) (60 * T + 60) (fun _ => 0)) = H
  have o81_0 : H 81 0 = h 81 0 := by rw [← hH]; simp only [hs_, hf_]; (repeat (first | rfl | rw [if_neg (by omega)]))
  have o81_1 : H 81 1 = h 81 1 := by rw [← hH]; simp only [hs_, hf_]; (repeat (first | rfl | rw [if_neg (by omega)]))
  have o81_11 : H 81 11 = h 81 11 := by rw [← hH]; simp only [hs_, hf_]; (repeat (first | rfl | rw [if_neg (by omega)]))
  have o81_14 : H 81 14 = h 81 14 := by rw [← hH]; simp only [hs_, hf_]; (repeat (first | rfl | rw [if_neg (by omega)]))
  have o81_15 : H 81 15 = h 81 15 := by rw [← hH]; simp only [hs_, hf_]; (repeat (first | rfl | rw [if_neg (by omega)]))
  have o81_20 : H 81 20 = h 81 20 := by rw [← hH]; simp only [hs_, hf_]; (repeat (first | rfl | rw [if_neg (by omega)]))
  have o81_26 : H 81 26 = h 81 26 := by rw [← hH]; simp only [hs_, hf_]; (repeat (first | rfl | rw [if_neg (by omega)]))
  have o81_27 : H 81 27 = h 81 27 := by rw [← hH]; simp only [hs_, hf_]; (repeat (first | rfl | rw [if_neg (by omega)]))
  have o81_55 : H 81 55 = h 81 55 := by rw [← hH]; simp only [hs_, hf_]; (repeat (first | rfl | rw [if_neg (by omega)]))
  have q0_1 : H 0 1 = h 0 1 := by rw [← hH]; simp only [hs_, hf_]; (repeat (first | rfl | rw [if_neg (by omega)]))
  have q0_6 : H 0 6 = h 0 6 := by rw [← hH]; simp only [hs_, hf_]; (repeat (first | rfl | rw [if_neg (by omega)]))
  have q2_1 : H 2 1 = h 2 1 := by rw [← hH]; simp only [hs_, hf_]; (repeat (first | rfl | rw [if_neg (by omega)]))
  have q6_0 : H 6 0 = h 6 0 := by rw [← hH]; simp only [hs_, hf_]; (repeat (first | rfl | rw [if_neg (by omega)]))
  have q6_1 : H 6 1 = h 6 1 := by rw [← hH]; simp only [hs_, hf_]; (repeat (first | rfl | rw [if_neg (by omega)]))
  have q6_2 : H 6 2 = h 6 2 := by rw [← hH]; simp only [hs_, hf_]; (repeat (first | rfl | rw [if_neg (by omega)]))
  have q11_1 : H 11 1 = h 11 1 := by rw [← hH]; simp only [hs_, hf_]; (repeat (first | rfl | rw [if_neg (by omega)]))
  have q13_0 : H 13 0 = h 13 0 := by rw [← hH]; simp only [hs_, hf_]; (repeat (first | rfl | rw [if_neg (by omega)]))
  have q13_1 : H 13 1 = h 13 1 := by rw [← hH]; simp only [hs_, hf_]; (repeat (first | rfl | rw [if_neg (by omega)]))
  have q18_3 : H 18 3 = h 18 3 := by rw [← hH]; simp only [hs_, hf_]; (repeat (first | rfl | rw [if_neg (by omega)]))
  have q39_1 : H 39 1 = h 39 1 := by rw [← hH]; simp only [hs_, hf_]; (repeat (first | rfl | rw [if_neg (by omega)]))
  have q39_3 : H 39 3 = h 39 3 := by rw [← hH]; simp only [hs_, hf_]; (repeat (first | rfl | rw [if_neg (by omega)]))
  have o82 : ∀ k, H 82 k = h 82 k := fun k => by rw [← hH]; simp only [hs_, hf_]; (repeat (first | rfl | rw [if_neg (by omega)]))
  have o83 : ∀ k, H 83 k = h 83 k := fun k => by rw [← hH]; simp only [hs_, hf_]; (repeat (first | rfl | rw [if_neg (by omega)]))
  have o84 : ∀ k, H 84 k = h 84 k := fun k => by rw [← hH]; simp only [hs_, hf_]; (repeat (first | rfl | rw [if_neg (by omega)]))
  have o85 : ∀ k, H 85 k = h 85 k := fun k => by rw [← hH]; simp only [hs_, hf_]; (repeat (first | rfl | rw [if_neg (by omega)]))
  have o86 : ∀ k, H 86 k = h 86 k := fun k => by rw [← hH]; simp only [hs_, hf_]; (repeat (first | rfl | rw [if_neg (by omega)]))
  have o87 : ∀ k, H 87 k = h 87 k := fun k => by rw [← hH]; simp only [hs_, hf_]; (repeat (first | rfl | rw [if_neg (by omega)]))
  have o88 : ∀ k, H 88 k = h 88 k := fun k => by rw [← hH]; simp only [hs_, hf_]; (repeat (first | rfl | rw [if_neg (by omega)]))
  have o89 : ∀ k, H 89 k = h 89 k := fun k => by rw [← hH]; simp only [hs_, hf_]; (repeat (first | rfl | rw [if_neg (by omega)]))
  have o90 : ∀ k, H 90 k = h 90 k := fun k => by rw [← hH]; simp only [hs_, hf_]; (repeat (first | rfl | rw [if_neg (by omega)]))
  have o93 : ∀ k, H 93 k = h 93 k := fun k => by rw [← hH]; simp only [hs_, hf_]; (repeat (first | rfl | rw [if_neg (by omega)]))
  have o94 : ∀ k, H 94 k = h 94 k := fun k => by rw [← hH]; simp only [hs_, hf_]; (repeat (first | rfl | rw [if_neg (by omega)]))
  have o95 : ∀ k, H 95 k = h 95 k := fun k => by rw [← hH]; simp only [hs_, hf_]; (repeat (first | rfl | rw [if_neg (by omega)]))
  have o96 : ∀ k, H 96 k = h 96 k := fun k => by rw [← hH]; simp only [hs_, hf_]; (repeat (first | rfl | rw [if_neg (by omega)]))
  have o97 : ∀ k, H 97 k = h 97 k := fun k => by rw [← hH]; simp only [hs_, hf_]; (repeat (first | rfl | rw [if_neg (by omega)]))
  have o98 : ∀ k, H 98 k = h 98 k := fun k => by rw [← hH]; simp only [hs_, hf_]; (repeat (first | rfl | rw [if_neg (by omega)]))
  have o99 : ∀ k, H 99 k = h 99 k := fun k => by rw [← hH]; simp only [hs_, hf_]; (repeat (first | rfl | rw [if_neg (by omega)]))
  have o102 : ∀ k, H 102 k = h 102 k := fun k => by rw [← hH]; simp only [hs_, hf_]; (repeat (first | rfl | rw [if_neg (by omega)]))
  have o103 : ∀ k, H 103 k = h 103 k := fun k => by rw [← hH]; simp only [hs_, hf_]; (repeat (first | rfl | rw [if_neg (by omega)]))
  have o104 : ∀ k, H 104 k = h 104 k := fun k => by rw [← hH]; simp only [hs_, hf_]; (repeat (first | rfl | rw [if_neg (by omega)]))
  have o3 : ∀ k, H 3 k = h 3 k := fun k => by rw [← hH]; simp only [hs_, hf_]; (repeat (first | rfl | rw [if_neg (by omega)]))
  have o4 : ∀ k, H 4 k = h 4 k := fun k => by rw [← hH]; simp only [hs_, hf_]; (repeat (first | rfl | rw [if_neg (by omega)]))
  have o5 : ∀ k, H 5 k = h 5 k := fun k => by rw [← hH]; simp only [hs_, hf_]; (repeat (first | rfl | rw [if_neg (by omega)]))
  have o7 : ∀ k, H 7 k = h 7 k := fun k => by rw [← hH]; simp only [hs_, hf_]; (repeat (first | rfl | rw [if_neg (by omega)]))
  have o8 : ∀ k, H 8 k = h 8 k := fun k => by rw [← hH]; simp only [hs_, hf_]; (repeat (first | rfl | rw [if_neg (by omega)]))
  have o9 : ∀ k, H 9 k = h 9 k := fun k => by rw [← hH]; simp only [hs_, hf_]; (repeat (first | rfl | rw [if_neg (by omega)]))
  have o12 : ∀ k, H 12 k = h 12 k := fun k => by rw [← hH]; simp only [hs_, hf_]; (repeat (first | rfl | rw [if_neg (by omega)]))
  have o14 : ∀ k, H 14 k = h 14 k := fun k => by rw [← hH]; simp only [hs_, hf_]; (repeat (first | rfl | rw [if_neg (by omega)]))
  have o15 : ∀ k, H 15 k = h 15 k := fun k => by rw [← hH]; simp only [hs_, hf_]; (repeat (first | rfl | rw [if_neg (by omega)]))
  have o16 : ∀ k, H 16 k = h 16 k := fun k => by rw [← hH]; simp only [hs_, hf_]; (repeat (first | rfl | rw [if_neg (by omega)]))
  have o17 : ∀ k, H 17 k = h 17 k := fun k => by rw [← hH]; simp only [hs_, hf_]; (repeat (first | rfl | rw [if_neg (by omega)]))
  have o19 : ∀ k, H 19 k = h 19 k := fun k => by rw [← hH]; simp only [hs_, hf_]; (repeat (first | rfl | rw [if_neg (by omega)]))
  have o20 : ∀ k, H 20 k = h 20 k := fun k => by rw [← hH]; simp only [hs_, hf_]; (repeat (first | rfl | rw [if_neg (by omega)]))
  have o21 : ∀ k, H 21 k = h 21 k := fun k => by rw [← hH]; simp only [hs_, hf_]; (repeat (first | rfl | rw [if_neg (by omega)]))
  have o41 : ∀ k, H 41 k = h 41 k := fun k => by rw [← hH]; simp only [hs_, hf_]; (repeat (first | rfl | rw [if_neg (by omega)]))
  have o121 : ∀ k, H 121 k = h 121 k := fun k => by rw [← hH]; simp only [hs_, hf_]; (repeat (first | rfl | rw [if_neg (by omega)]))
  have o100 : ∀ k, H 100 k = h 100 k := fun k => by rw [← hH]; simp only [hs_, hf_]; (repeat (first | rfl | rw [if_neg (by omega)]))
  have hbig : ∀ a k : Nat, 126 ≤ a → H a k = h a k := fun a k ha => by rw [← hH]; simp only [hs_, hf_]; (repeat (first | rfl | rw [if_neg (by omega)]))
  have hst : ∀ a k : Nat, 24 ≤ a → a ≤ 27 → H a k = h a k := fun a k ha hb => by rw [← hH]; simp only [hs_, hf_]; (repeat (first | rfl | rw [if_neg (by omega)]))
  refine ⟨hT, ⟨?_, ?_, ?_, ?_, ?_, ?_, ?_, ?_, ?_, ?_, ?_, ?_, ?_, ?_, ?_, ?_, ?_, ?_, ?_, ?_, ?_, ?_, ?_, ?_, ?_, ?_, ?_, ?_, ?_, ?_, ?_, ?_⟩, ⟨?_, ?_, ?_, ?_, ?_, ?_, ?_, ?_, ?_, ?_, ?_, ?_, ?_, ?_, ?_, ?_, ?_, ?_, ?_, ?_, ?_, ?_, ?_, ?_, ?_, ?_, ?_, ?_, ?_⟩⟩
  · simp only [o81_0]; exact x.p_
  · simp only [o81_1]; exact x.n_
  · simp only [o81_1, o81_11]; exact x.d_
  · simp only [o81_1, o81_14]; exact x.s_
  · simp only [o81_1, o81_15]; exact x.r_
  · simp only [o81_20]; exact x.t_
  · simp only [o81_26]; exact x.f_
  · simp only [o81_27]; exact x.e_
  · simp only [o81_55]; exact x.a_
  · simp only [o82]; exact x.ki_
  · simp only [o83]; exact x.re_
  · simp only [o84]; exact x.pa_
  · simp only [o85]; exact x.wh_
  · simp only [o81_1, o86]; exact x.ha_
  · simp only [o81_1, o86]; exact x.hi_
  · simp only [o87]; exact x.co_
  · simp only [o88]; exact x.le_
  · simp only [o89]; exact x.be_
  · simp only [o90]; exact x.cc_
  · simp only [o81_1, o81_14, o93]; exact x.st_
  · simp only [o94]; exact x.mk_
  · simp only [o95]; exact x.cr_
  · simp only [o96]; exact x.cm_
  · simp only [o97]; exact x.t7_
  · simp only [o98]; exact x.t8_
  · simp only [o99]; exact x.t9_
  · simp only [o81_26, o102]; exact x.ma_
  · simp only [o81_26, o102, o103]; exact x.to_
  · simp only [o104]; exact x.tx_
  · intro k hk; rw [← hH]; have := x.so_ k hk; simp only [hs_, hf_]; by_cases z : k = T; (subst z; simp <;> omega); (simp [z] <;> omega)
  · intro k hk; rw [← hH]; have := x.si_ k hk; simp only [hs_, hf_]; by_cases z : k = T; (subst z; simp <;> omega); (simp [z] <;> omega)
  · intro k hk; rw [← hH]; simp only [hs_, hf_]; by_cases z : 60 * T ≤ k ∧ k < 60 * T + 60; (simp [z]); (have := x.it_ k hk; simp [z] <;> omega)
  · simp only [o81_0, q0_1]; exact y.pc_
  · intro k hk; rw [o81_0] at hk; obtain ⟨o, p1, p2, p3, p4, p5, p6, p7⟩ := y.pe_ k hk; exact ⟨o, p1, p2, p3, by rw [hbig o 0 p2]; exact p4, by rw [hbig o 1 p2, o82]; exact p5, by rw [hbig o 2 p2, o83]; exact p6, by rw [hbig o 3 p2, o84]; exact p7⟩
  · simp only [o81_55, q2_1]; exact y.ra_
  · simp only [o3, o121]; exact y.tr_
  · simp only [o81_1, o85, o86, o4]; exact y.wh_
  · simp only [o4]; exact y.wr_
  · simp only [o87, o5]; exact y.co_
  · simp only [o81_1, o81_14, o81_15, q6_0, q6_1, q6_2]; exact y.fn_
  · simp only [o81_1, o86, o7]; exact y.or_
  · simp only [o81_1, o88, o8]; exact y.le_
  · simp only [o81_1, o94, o9]; exact y.mk_
  · simp only [o81_1, o81_11, q0_6]; exact y.da_
  · simp only [o81_1, o81_14, q11_1]; exact y.dc_
  · simp only [o81_1, o81_14, o93, o12]; exact y.dd_
  · simp only [o81_1, o81_15, q13_0, q13_1]; exact y.cn_
  · intro r p hr hp; rw [o81_15] at hr; rw [o81_1] at hp; rw [o14, o15, o16, o95, o96, f_top_k o81_1 o95 o96]; exact y.cl_ r p hr hp
  · simp only [o14, o15]; exact y.cr_
  · simp only [o17]; exact y.cc_
  · simp only [o81_1, o81_11, o81_15, o90, o17]; exact y.ce_
  · simp only [o81_20, q18_3, o97, o98, o99, o19, o20, o21]; exact y.pi_
  · intro hd; rw [o81_11] at hd; rw [o81_1, show t_0 H = t_0 h from by unfold t_0; rw [show H 89 = h 89 from funext o89]]; exact (y.sf_ hd).fr (fun b j b1 b2 => hst b j (by omega) (by omega))
  · rw [o81_26]; exact (y.fg_.fr q39_1 hbig).cg (fun f hf => figL_c (o102 f) (fun k hk => o103 _))
  · simp only [o81_27, q39_3, o104, o41]; exact y.tx_
  · intro t ht
    rw [← hH]
    by_cases z : t = T
    · subst z
      refine ⟨?_, ?_, fun i hi => ?_⟩
      · simp only [hs_, hf_]; (repeat (first | rw [if_neg (by omega)] | rw [if_pos (by first | omega | exact ⟨trivial, trivial⟩)]))
      · simp only [hs_, hf_]; (repeat (first | rw [if_neg (by omega)] | rw [if_pos (by first | omega | exact ⟨trivial, trivial⟩)]))
      · exfalso; simp [hs_, hf_] at hi; omega
    · have e := y.tp_ t ht
      refine ⟨?_, ?_, fun i hi => ?_⟩
      · have n1 : 69 + 2 * t ≠ 69 + 2 * T := by omega
        have n2 : 69 + 2 * t ≠ 69 + 2 * T + 1 := by omega
        simp only [hs_, hf_]; (repeat rw [if_neg (by omega)]); exact e.1
      · simp only [hs_, hf_]; (repeat rw [if_neg (by omega)]); exact e.2.1
      · have hi2 : (i : Int) < h 123 t := by
          simp only [hs_, hf_] at hi; (repeat rw [if_neg (by omega)] at hi); exact hi
        have i60 := x.si_ t ht
        simp only [hs_, hf_]; (repeat rw [if_neg (by omega)]); exact e.2.2 i hi2
  · simp only [o81_1, o81_11, o86]; exact y.nd_
  · intro t ht q
    rw [← hH] at q ⊢
    by_cases z : t = T
    · subst z; simp [hs_, hf_] at q ⊢; try omega
    · have e := y.sn_ t ht
      simp only [hs_, hf_] at q ⊢; rw [if_neg (by omega), if_neg (by omega), if_neg (fun r => z r.2)] at q; rw [if_neg (by omega), if_neg (fun r => z r.2)]; (repeat rw [if_neg (by omega)] at q); (repeat rw [if_neg (by omega)]); exact e q
  · intro r p hr hp; rw [o81_15] at hr; rw [o81_1] at hp ⊢; rw [o95]; exact y.ok_ r p hr hp
  · simp only [o100]; exact y.gs_
  · rw [o81_0, o81_26]; exact y.sz_
theorem SIM_tapeB {τ : TT} {h : HT} (s : SIM τ h) {T : Nat} {s_ k_ : Int} (hTT : T < 6) (hs4 : 0 ≤ s_ ∧ s_ ≤ 4) (hk6 : 0 ≤ k_ ∧ k_ ≤ 60) : SIM τ (hf_ (hs_ (hs_ (hf_ (hs_ (hs_ h (69 + 2 * T) 0 s_) (69 + 2 * T) 1 k_) (69 + 2 * T + 1) 0 60 (fun _ => 0)) 122 T s_) 123 T k_) 124 (60 * T) (60 * T + 60) (fun _ => 0)) := by
  obtain ⟨hT, x, y⟩ := s
  generalize hH : (hf_ (hs_ (hs_ (hf_ (hs_ (hs_ h (69 + 2 * T) 0 s_) (69 + 2 * T) 1 k_) (69 + 2 * T + 1) 0 60 (fun _ => 0)) 122 T s_) 123 T k_) 124 (60 * T) (60 * T + 60) (fun _ => 0)) = H
  have o81_0 : H 81 0 = h 81 0 := by rw [← hH]; simp only [hs_, hf_]; (repeat (first | rfl | rw [if_neg (by omega)]))
  have o81_1 : H 81 1 = h 81 1 := by rw [← hH]; simp only [hs_, hf_]; (repeat (first | rfl | rw [if_neg (by omega)]))
  have o81_11 : H 81 11 = h 81 11 := by rw [← hH]; simp only [hs_, hf_]; (repeat (first | rfl | rw [if_neg (by omega)]))
  have o81_14 : H 81 14 = h 81 14 := by rw [← hH]; simp only [hs_, hf_]; (repeat (first | rfl | rw [if_neg (by omega)]))
  have o81_15 : H 81 15 = h 81 15 := by rw [← hH]; simp only [hs_, hf_]; (repeat (first | rfl | rw [if_neg (by omega)]))
  have o81_20 : H 81 20 = h 81 20 := by rw [← hH]; simp only [hs_, hf_]; (repeat (first | rfl | rw [if_neg (by omega)]))
  have o81_26 : H 81 26 = h 81 26 := by rw [← hH]; simp only [hs_, hf_]; (repeat (first | rfl | rw [if_neg (by omega)]))
  have o81_27 : H 81 27 = h 81 27 := by rw [← hH]; simp only [hs_, hf_]; (repeat (first | rfl | rw [if_neg (by omega)]))
  have o81_55 : H 81 55 = h 81 55 := by rw [← hH]; simp only [hs_, hf_]; (repeat (first | rfl | rw [if_neg (by omega)]))
  have q0_1 : H 0 1 = h 0 1 := by rw [← hH]; simp only [hs_, hf_]; (repeat (first | rfl | rw [if_neg (by omega)]))
  have q0_6 : H 0 6 = h 0 6 := by rw [← hH]; simp only [hs_, hf_]; (repeat (first | rfl | rw [if_neg (by omega)]))
  have q2_1 : H 2 1 = h 2 1 := by rw [← hH]; simp only [hs_, hf_]; (repeat (first | rfl | rw [if_neg (by omega)]))
  have q6_0 : H 6 0 = h 6 0 := by rw [← hH]; simp only [hs_, hf_]; (repeat (first | rfl | rw [if_neg (by omega)]))
  have q6_1 : H 6 1 = h 6 1 := by rw [← hH]; simp only [hs_, hf_]; (repeat (first | rfl | rw [if_neg (by omega)]))
  have q6_2 : H 6 2 = h 6 2 := by rw [← hH]; simp only [hs_, hf_]; (repeat (first | rfl | rw [if_neg (by omega)]))
  have q11_1 : H 11 1 = h 11 1 := by rw [← hH]; simp only [hs_, hf_]; (repeat (first | rfl | rw [if_neg (by omega)]))
  have q13_0 : H 13 0 = h 13 0 := by rw [← hH]; simp only [hs_, hf_]; (repeat (first | rfl | rw [if_neg (by omega)]))
  have q13_1 : H 13 1 = h 13 1 := by rw [← hH]; simp only [hs_, hf_]; (repeat (first | rfl | rw [if_neg (by omega)]))
  have q18_3 : H 18 3 = h 18 3 := by rw [← hH]; simp only [hs_, hf_]; (repeat (first | rfl | rw [if_neg (by omega)]))
  have q39_1 : H 39 1 = h 39 1 := by rw [← hH]; simp only [hs_, hf_]; (repeat (first | rfl | rw [if_neg (by omega)]))
  have q39_3 : H 39 3 = h 39 3 := by rw [← hH]; simp only [hs_, hf_]; (repeat (first | rfl | rw [if_neg (by omega)]))
  have o82 : ∀ k, H 82 k = h 82 k := fun k => by rw [← hH]; simp only [hs_, hf_]; (repeat (first | rfl | rw [if_neg (by omega)]))
  have o83 : ∀ k, H 83 k = h 83 k := fun k => by rw [← hH]; simp only [hs_, hf_]; (repeat (first | rfl | rw [if_neg (by omega)]))
  have o84 : ∀ k, H 84 k = h 84 k := fun k => by rw [← hH]; simp only [hs_, hf_]; (repeat (first | rfl | rw [if_neg (by omega)]))
  have o85 : ∀ k, H 85 k = h 85 k := fun k => by rw [← hH]; simp only [hs_, hf_]; (repeat (first | rfl | rw [if_neg (by omega)]))
  have o86 : ∀ k, H 86 k = h 86 k := fun k => by rw [← hH]; simp only [hs_, hf_]; (repeat (first | rfl | rw [if_neg (by omega)]))
  have o87 : ∀ k, H 87 k = h 87 k := fun k => by rw [← hH]; simp only [hs_, hf_]; (repeat (first | rfl | rw [if_neg (by omega)]))
  have o88 : ∀ k, H 88 k = h 88 k := fun k => by rw [← hH]; simp only [hs_, hf_]; (repeat (first | rfl | rw [if_neg (by omega)]))
  have o89 : ∀ k, H 89 k = h 89 k := fun k => by rw [← hH]; simp only [hs_, hf_]; (repeat (first | rfl | rw [if_neg (by omega)]))
  have o90 : ∀ k, H 90 k = h 90 k := fun k => by rw [← hH]; simp only [hs_, hf_]; (repeat (first | rfl | rw [if_neg (by omega)]))
  have o93 : ∀ k, H 93 k = h 93 k := fun k => by rw [← hH]; simp only [hs_, hf_]; (repeat (first | rfl | rw [if_neg (by omega)]))
  have o94 : ∀ k, H 94 k = h 94 k := fun k => by rw [← hH]; simp only [hs_, hf_]; (repeat (first | rfl | rw [if_neg (by omega)]))
  have o95 : ∀ k, H 95 k = h 95 k := fun k => by rw [← hH]; simp only [hs_, hf_]; (repeat (first | rfl | rw [if_neg (by omega)]))
  have o96 : ∀ k, H 96 k = h 96 k := fun k => by rw [← hH]; simp only [hs_, hf_]; (repeat (first | rfl | rw [if_neg (by omega)]))
  have o97 : ∀ k, H 97 k = h 97 k := fun k => by rw [← hH]; simp only [hs_, hf_]; (repeat (first | rfl | rw [if_neg (by omega)]))
  have o98 : ∀ k, H 98 k = h 98 k := fun k => by rw [← hH]; simp only [hs_, hf_]; (repeat (first | rfl | rw [if_neg (by omega)]))
  have o99 : ∀ k, H 99 k = h 99 k := fun k => by rw [← hH]; simp only [hs_, hf_]; (repeat (first | rfl | rw [if_neg (by omega)]))
  have o102 : ∀ k, H 102 k = h 102 k := fun k => by rw [← hH]; simp only [hs_, hf_]; (repeat (first | rfl | rw [if_neg (by omega)]))
  have o103 : ∀ k, H 103 k = h 103 k := fun k => by rw [← hH]; simp only [hs_, hf_]; (repeat (first | rfl | rw [if_neg (by omega)]))
  have o104 : ∀ k, H 104 k = h 104 k := fun k => by rw [← hH]; simp only [hs_, hf_]; (repeat (first | rfl | rw [if_neg (by omega)]))
  have o3 : ∀ k, H 3 k = h 3 k := fun k => by rw [← hH]; simp only [hs_, hf_]; (repeat (first | rfl | rw [if_neg (by omega)]))
  have o4 : ∀ k, H 4 k = h 4 k := fun k => by rw [← hH]; simp only [hs_, hf_]; (repeat (first | rfl | rw [if_neg (by omega)]))
  have o5 : ∀ k, H 5 k = h 5 k := fun k => by rw [← hH]; simp only [hs_, hf_]; (repeat (first | rfl | rw [if_neg (by omega)]))
  have o7 : ∀ k, H 7 k = h 7 k := fun k => by rw [← hH]; simp only [hs_, hf_]; (repeat (first | rfl | rw [if_neg (by omega)]))
  have o8 : ∀ k, H 8 k = h 8 k := fun k => by rw [← hH]; simp only [hs_, hf_]; (repeat (first | rfl | rw [if_neg (by omega)]))
  have o9 : ∀ k, H 9 k = h 9 k := fun k => by rw [← hH]; simp only [hs_, hf_]; (repeat (first | rfl | rw [if_neg (by omega)]))
  have o12 : ∀ k, H 12 k = h 12 k := fun k => by rw [← hH]; simp only [hs_, hf_]; (repeat (first | rfl | rw [if_neg (by omega)]))
  have o14 : ∀ k, H 14 k = h 14 k := fun k => by rw [← hH]; simp only [hs_, hf_]; (repeat (first | rfl | rw [if_neg (by omega)]))
  have o15 : ∀ k, H 15 k = h 15 k := fun k => by rw [← hH]; simp only [hs_, hf_]; (repeat (first | rfl | rw [if_neg (by omega)]))
  have o16 : ∀ k, H 16 k = h 16 k := fun k => by rw [← hH]; simp only [hs_, hf_]; (repeat (first | rfl | rw [if_neg (by omega)]))
  have o17 : ∀ k, H 17 k = h 17 k := fun k => by rw [← hH]; simp only [hs_, hf_]; (repeat (first | rfl | rw [if_neg (by omega)]))
  have o19 : ∀ k, H 19 k = h 19 k := fun k => by rw [← hH]; simp only [hs_, hf_]; (repeat (first | rfl | rw [if_neg (by omega)]))
  have o20 : ∀ k, H 20 k = h 20 k := fun k => by rw [← hH]; simp only [hs_, hf_]; (repeat (first | rfl | rw [if_neg (by omega)]))
  have o21 : ∀ k, H 21 k = h 21 k := fun k => by rw [← hH]; simp only [hs_, hf_]; (repeat (first | rfl | rw [if_neg (by omega)]))
  have o41 : ∀ k, H 41 k = h 41 k := fun k => by rw [← hH]; simp only [hs_, hf_]; (repeat (first | rfl | rw [if_neg (by omega)]))
  have o121 : ∀ k, H 121 k = h 121 k := fun k => by rw [← hH]; simp only [hs_, hf_]; (repeat (first | rfl | rw [if_neg (by omega)]))
  have o100 : ∀ k, H 100 k = h 100 k := fun k => by rw [← hH]; simp only [hs_, hf_]; (repeat (first | rfl | rw [if_neg (by omega)]))
  have hbig : ∀ a k : Nat, 126 ≤ a → H a k = h a k := fun a k ha => by rw [← hH]; simp only [hs_, hf_]; (repeat (first | rfl | rw [if_neg (by omega)]))
  have hst : ∀ a k : Nat, 24 ≤ a → a ≤ 27 → H a k = h a k := fun a k ha hb => by rw [← hH]; simp only [hs_, hf_]; (repeat (first | rfl | rw [if_neg (by omega)]))
  refine ⟨hT, ⟨?_, ?_, ?_, ?_, ?_, ?_, ?_, ?_, ?_, ?_, ?_, ?_, ?_, ?_, ?_, ?_, ?_, ?_, ?_, ?_, ?_, ?_, ?_, ?_, ?_, ?_, ?_, ?_, ?_, ?_, ?_, ?_⟩, ⟨?_, ?_, ?_, ?_, ?_, ?_, ?_, ?_, ?_, ?_, ?_, ?_, ?_, ?_, ?_, ?_, ?_, ?_, ?_, ?_, ?_, ?_, ?_, ?_, ?_, ?_, ?_, ?_, ?_⟩⟩
  · simp only [o81_0]; exact x.p_
  · simp only [o81_1]; exact x.n_
  · simp only [o81_1, o81_11]; exact x.d_
  · simp only [o81_1, o81_14]; exact x.s_
  · simp only [o81_1, o81_15]; exact x.r_
  · simp only [o81_20]; exact x.t_
  · simp only [o81_26]; exact x.f_
  · simp only [o81_27]; exact x.e_
  · simp only [o81_55]; exact x.a_
  · simp only [o82]; exact x.ki_
  · simp only [o83]; exact x.re_
  · simp only [o84]; exact x.pa_
  · simp only [o85]; exact x.wh_
  · simp only [o81_1, o86]; exact x.ha_
  · simp only [o81_1, o86]; exact x.hi_
  · simp only [o87]; exact x.co_
  · simp only [o88]; exact x.le_
  · simp only [o89]; exact x.be_
  · simp only [o90]; exact x.cc_
  · simp only [o81_1, o81_14, o93]; exact x.st_
  · simp only [o94]; exact x.mk_
  · simp only [o95]; exact x.cr_
  · simp only [o96]; exact x.cm_
  · simp only [o97]; exact x.t7_
  · simp only [o98]; exact x.t8_
  · simp only [o99]; exact x.t9_
  · simp only [o81_26, o102]; exact x.ma_
  · simp only [o81_26, o102, o103]; exact x.to_
  · simp only [o104]; exact x.tx_
  · intro k hk; rw [← hH]; have := x.so_ k hk; simp only [hs_, hf_]; by_cases z : k = T; (subst z; simp <;> omega); (simp [z] <;> omega)
  · intro k hk; rw [← hH]; have := x.si_ k hk; simp only [hs_, hf_]; by_cases z : k = T; (subst z; simp <;> omega); (simp [z] <;> omega)
  · intro k hk; rw [← hH]; simp only [hs_, hf_]; by_cases z : 60 * T ≤ k ∧ k < 60 * T + 60; (simp [z]); (have := x.it_ k hk; simp [z] <;> omega)
  · simp only [o81_0, q0_1]; exact y.pc_
  · intro k hk; rw [o81_0] at hk; obtain ⟨o, p1, p2, p3, p4, p5, p6, p7⟩ := y.pe_ k hk; exact ⟨o, p1, p2, p3, by rw [hbig o 0 p2]; exact p4, by rw [hbig o 1 p2, o82]; exact p5, by rw [hbig o 2 p2, o83]; exact p6, by rw [hbig o 3 p2, o84]; exact p7⟩
  · simp only [o81_55, q2_1]; exact y.ra_
  · simp only [o3, o121]; exact y.tr_
  · simp only [o81_1, o85, o86, o4]; exact y.wh_
  · simp only [o4]; exact y.wr_
  · simp only [o87, o5]; exact y.co_
  · simp only [o81_1, o81_14, o81_15, q6_0, q6_1, q6_2]; exact y.fn_
  · simp only [o81_1, o86, o7]; exact y.or_
  · simp only [o81_1, o88, o8]; exact y.le_
  · simp only [o81_1, o94, o9]; exact y.mk_
  · simp only [o81_1, o81_11, q0_6]; exact y.da_
  · simp only [o81_1, o81_14, q11_1]; exact y.dc_
  · simp only [o81_1, o81_14, o93, o12]; exact y.dd_
  · simp only [o81_1, o81_15, q13_0, q13_1]; exact y.cn_
  · intro r p hr hp; rw [o81_15] at hr; rw [o81_1] at hp; rw [o14, o15, o16, o95, o96, f_top_k o81_1 o95 o96]; exact y.cl_ r p hr hp
  · simp only [o14, o15]; exact y.cr_
  · simp only [o17]; exact y.cc_
  · simp only [o81_1, o81_11, o81_15, o90, o17]; exact y.ce_
  · simp only [o81_20, q18_3, o97, o98, o99, o19, o20, o21]; exact y.pi_
  · intro hd; rw [o81_11] at hd; rw [o81_1, show t_0 H = t_0 h from by unfold t_0; rw [show H 89 = h 89 from funext o89]]; exact (y.sf_ hd).fr (fun b j b1 b2 => hst b j (by omega) (by omega))
  · rw [o81_26]; exact (y.fg_.fr q39_1 hbig).cg (fun f hf => figL_c (o102 f) (fun k hk => o103 _))
  · simp only [o81_27, q39_3, o104, o41]; exact y.tx_
  · intro t ht
    rw [← hH]
    by_cases z : t = T
    · subst z
      refine ⟨?_, ?_, fun i hi => ?_⟩
      · simp only [hs_, hf_]; (repeat (first | rw [if_neg (by omega)] | rw [if_pos (by first | omega | exact ⟨trivial, trivial⟩)]))
      · simp only [hs_, hf_]; (repeat (first | rw [if_neg (by omega)] | rw [if_pos (by first | omega | exact ⟨trivial, trivial⟩)]))
      · have hi2 : (i : Int) < k_ := by simpa [hs_, hf_] using hi
        simp only [hs_, hf_]; rw [if_neg (by omega), if_neg (by omega), if_neg (by omega), if_pos (by omega), if_pos (by first | omega | trivial | exact ⟨by omega, trivial⟩ | exact ⟨trivial, trivial⟩ | (refine ⟨trivial, ?_⟩; omega) | (refine ⟨trivial, ?_, ?_⟩ <;> omega))]
    · have e := y.tp_ t ht
      refine ⟨?_, ?_, fun i hi => ?_⟩
      · have n1 : 69 + 2 * t ≠ 69 + 2 * T := by omega
        have n2 : 69 + 2 * t ≠ 69 + 2 * T + 1 := by omega
        simp only [hs_, hf_]; (repeat rw [if_neg (by omega)]); exact e.1
      · simp only [hs_, hf_]; (repeat rw [if_neg (by omega)]); exact e.2.1
      · have hi2 : (i : Int) < h 123 t := by
          simp only [hs_, hf_] at hi; (repeat rw [if_neg (by omega)] at hi); exact hi
        have i60 := x.si_ t ht
        simp only [hs_, hf_]; (repeat rw [if_neg (by omega)]); exact e.2.2 i hi2
  · simp only [o81_1, o81_11, o86]; exact y.nd_
  · intro t ht q
    rw [← hH] at q ⊢
    by_cases z : t = T
    · subst z; simp [hs_, hf_] at q ⊢; try omega
    · have e := y.sn_ t ht
      simp only [hs_, hf_] at q ⊢; rw [if_neg (by omega), if_neg (by omega), if_neg (fun r => z r.2)] at q; rw [if_neg (by omega), if_neg (fun r => z r.2)]; (repeat rw [if_neg (by omega)] at q); (repeat rw [if_neg (by omega)]); exact e q
  · intro r p hr hp; rw [o81_15] at hr; rw [o81_1] at hp ⊢; rw [o95]; exact y.ok_ r p hr hp
  · simp only [o100]; exact y.gs_
  · rw [o81_0, o81_26]; exact y.sz_
