/-! operations: form, akin -/
def FDx (τ : TT) (h : HT) (f : Int) (b LB : Nat) : Prop := ST τ b LB ∧ (b + 1 < 45 ∨ 54 < b) ∧ h b 1 = (((f_N h f).toNat : Nat) : Int) ∧ ((f_N h f).toNat ≤ 300 ∧ (f_N h f).toNat ≤ LB) ∧ ∀ k : Nat, k < (f_N h f).toNat → h (b + 1) k = f_S h f k ∧ f_okc (f_S h f k)
theorem FDx_11 {τ : TT} {h : HT} (hT : TK τ) (x : MI h) (y : XR τ h) : FDx τ h (-1) 11 300 := by
  have ok := f_S_ok x (f := -1) (Or.inl rfl)
  have eN : f_N h (-1) = h 81 14 := if_neg (by decide)
  rw [eN] at ok
  refine ⟨st11 hT, Or.inl (by decide), ?_, ?_, fun k hk => ⟨?_, ?_⟩⟩
  · rw [eN, y.dc_]; omega
  · rw [eN]; omega
  · rw [eN] at hk; show h 12 k = (if (0 : Int) ≤ -1 then _ else h 93 k); rw [if_neg (by decide)]; exact y.dd_ k (by omega)
  · rw [eN] at hk; exact ok.2.2 k (by omega)
theorem FDx_f {τ : TT} {h : HT} (x : MI h) {f : Int} (hf : 0 ≤ f ∧ f < h 81 26) {b L : Nat} (b3 : ST τ b L) (b2 : 126 ≤ b) (b5 : 0 ≤ h b 1 ∧ h b 1 ≤ L) (bc : (h b 1).toNat = (h 102 f.toNat).toNat) (be : ∀ k : Nat, k < (h 102 f.toNat).toNat → h (b + 1) k = h 103 (300 * f.toNat + k)) : FDx τ h f b L := by
  have ok := f_S_ok x (f := f) (Or.inr hf)
  have eN : f_N h f = h 102 f.toNat := if_pos hf.1
  rw [eN] at ok
  refine ⟨b3, Or.inr (by omega), ?_, ?_, fun k hk => ⟨?_, ?_⟩⟩
  · rw [eN]; omega
  · rw [eN]; omega
  · rw [eN] at hk; rw [be k hk]; show _ = (if 0 ≤ f then h 103 (300 * f.toNat + k) else _); rw [if_pos hf.1]
  · rw [eN] at hk; exact ok.2.2 k (by omega)
theorem f_form_n {h : HT} {f w : Int} (c1 : ¬ (¬ (f = -1 ∨ (0 ≤ f ∧ f ≤ h 81 26 - 1)) ∨ w < -2)) (c2 : ¬ h 81 1 = 0) (hW : w_run (h 81 1) (f_S h f) (f_N h f).toNat = none) : f_form h f w = -97 := by
  unfold f_form; rw [if_neg c1, if_neg c2, hW]
theorem f_form_s {h : HT} {f w : Int} {W : WT} (c1 : ¬ (¬ (f = -1 ∨ (0 ≤ f ∧ f ≤ h 81 26 - 1)) ∨ w < -2)) (c2 : ¬ h 81 1 = 0) (hW : w_run (h 81 1) (f_S h f) (f_N h f).toNat = some W) : f_form h f w = if w = -2 then W.1 else if w = -1 then (W.2.1 : Int) else if w < (W.2.1 : Int) then w_srt (h 81 1) W.2.1 W.2.2 W.2.1 w.toNat else -99 := by
  unfold f_form; rw [if_neg c1, if_neg c2, hW]
theorem f_akin_n {h : HT} {a b : Int} (c1 : ¬ (¬ (a = -1 ∨ (0 ≤ a ∧ a ≤ h 81 26 - 1)) ∨ ¬ (b = -1 ∨ (0 ≤ b ∧ b ≤ h 81 26 - 1)))) (c2 : ¬ h 81 1 = 0) (hA : w_run (h 81 1) (f_S h a) (f_N h a).toNat = none) : f_akin h a b = -3 := by
  unfold f_akin; rw [if_neg c1, if_neg c2, hA]
theorem f_akin_m {h : HT} {a b : Int} {A : WT} (c1 : ¬ (¬ (a = -1 ∨ (0 ≤ a ∧ a ≤ h 81 26 - 1)) ∨ ¬ (b = -1 ∨ (0 ≤ b ∧ b ≤ h 81 26 - 1)))) (c2 : ¬ h 81 1 = 0) (hA : w_run (h 81 1) (f_S h a) (f_N h a).toNat = some A) (hB : w_run (h 81 1) (f_S h b) (f_N h b).toNat = none) : f_akin h a b = -3 := by
  unfold f_akin; rw [if_neg c1, if_neg c2, hA]; show (match w_run (h 81 1) (f_S h b) (f_N h b).toNat with | none => (-3 : Int) | some B => _) = -3; rw [hB]
theorem f_akin_s {h : HT} {a b : Int} {A B : WT} (c1 : ¬ (¬ (a = -1 ∨ (0 ≤ a ∧ a ≤ h 81 26 - 1)) ∨ ¬ (b = -1 ∨ (0 ≤ b ∧ b ≤ h 81 26 - 1)))) (c2 : ¬ h 81 1 = 0) (hA : w_run (h 81 1) (f_S h a) (f_N h a).toNat = some A) (hB : w_run (h 81 1) (f_S h b) (f_N h b).toNat = some B) : f_akin h a b = if (A.1 = B.1 ∧ A.2.1 = B.2.1) ∧ ∀ j : Nat, j < A.2.1 → w_srt (h 81 1) B.2.1 B.2.2 B.2.1 j = w_srt (h 81 1) A.2.1 A.2.2 A.2.1 j then 1 else 0 := by
  unfold f_akin; rw [if_neg c1, if_neg c2, hA]; show (match w_run (h 81 1) (f_S h b) (f_N h b).toNat with | none => (-3 : Int) | some B => _) = _; rw [hB]
theorem x_figOr (d : Nat) (τ : TT) (h : HT) (hT : TK τ) (x : MI h) (y : XR τ h) (f : Int) (r_f : -2147483648 ≤ f ∧ f ≤ 2147483647) : S_ mX11_figureOrDance (d + 1) 0 0 [.inr (some 0), .inl f] τ h (Zr τ fun x' h' => ((f_fig h f → ∃ b LB : Nat, x' = some b ∧ FDx τ h f b LB) ∧ (¬ f_fig h f → x' = none)) ∧ h' = h) := by
  have n9 := x.n9
  have d1 := x.d1
  have n_ := x.n_
  have fn := y.fn_
  have da := y.da_
  have cn := y.cn_
  have r_r_ := x.r_
  have s_s_ := x.s_
  have dc := y.dc_
  have pc := y.pc_
  have pp := x.p_
  have fgc := y.fg_.1
  have f10 := x.f_
  have ra := y.ra_
  have a100 := x.a_
  have pic := y.pi_
  have t40 := x.t_
  have txx := y.tx_
  have e80 := x.e_
  refine S_go (k := 0) (ls := [some (.inr (some 0)), some (.inl f)]) (by decide) rfl (Nat.le_of_ble_eq_true rfl) rfl ?_
  refine G_iload_n (i := 1) dX11_figureOrDance_0 rfl rfl ?_
  refine G_iconst dX11_figureOrDance_1 ?_
  refine G_icmp_ne (tgt := 12) dX11_figureOrDance_2 (by decide) (by omega) (by decide) (fun c_1 => ?_) (fun c_1 => ?_)
  · refine G_aload_n (i := 0) dX11_figureOrDance_12 rfl rfl ?_
    refine G_getR fX11_79 rfl dX11_figureOrDance_13 (o0 hT) (r0_13 hT) ?_
    refine G_iload_n (i := 1) dX11_figureOrDance_16 rfl rfl ?_
    refine G_cVr (as := [.inl f]) qX11_264 (x_figureAt d τ h hT f (by omega) (by have := y.fg_.1; have := y.fg_.2.1; omega)) rfl rfl (Nat.le_of_ble_eq_true rfl) (o39 hT) dX11_figureOrDance_17 (fun x' h' e' => ?_)
    obtain ⟨rfl, eh'⟩ := e'
    rw [eh']
    clear eh'
    by_cases hb : 0 ≤ f ∧ f < h 39 1
    · rw [if_pos hb]
      obtain ⟨b, Lb, b1, b2, b3, b4, b5, b6⟩ := y.fg_.2.2 (f).toNat (by have := y.fg_.1; omega)
      rw [b1]
      have bm := x.ma_ (f).toNat (by have := y.fg_.1; omega)
      obtain ⟨bc, be⟩ := stL_fig b5 b6
      refine G_aretZ rfl dX11_figureOrDance_20 ?_
      exact ⟨⟨fun _ => ⟨b, Lb, rfl, FDx_f x (by omega) b3 b2 b5 bc be⟩, fun q => absurd (Or.inr (by omega)) q⟩, rfl⟩
    · rw [if_neg hb]
      refine G_aretZ rfl dX11_figureOrDance_20 ?_
      exact ⟨⟨fun q => absurd q (by unfold f_fig; omega), fun _ => rfl⟩, rfl⟩
  · refine G_aload_n (i := 0) dX11_figureOrDance_5 rfl rfl ?_
    refine G_getR fX11_49 rfl dX11_figureOrDance_6 (o0 hT) (r0_7 hT) ?_
    refine G_goto (tgt := 20) dX11_figureOrDance_9 (by decide) ?_
    refine G_aretZ rfl dX11_figureOrDance_20 ?_
    refine ⟨⟨fun _ => ⟨11, 300, rfl, ?_⟩, fun q => absurd (Or.inl (by omega)) q⟩, rfl⟩
    rw [show f = -1 by omega]; exact FDx_11 hT x y

theorem x_formM (d : Nat) (τ : TT) (h : HT) (hT : TK τ) (x : MI h) (y : XR τ h) (f w : Int) (r_f : -2147483648 ≤ f ∧ f ≤ 2147483647) (r_w : -2147483648 ≤ w ∧ w ≤ 2147483647) : S_ mX11_form (d + 4) 0 0 [.inr (some 0), .inl f, .inl w] τ h (Zi τ fun v h' => v = f_form h f w ∧ FRm 45 h h') := by
  have n9 := x.n9
  have d1 := x.d1
  have n_ := x.n_
  have fn := y.fn_
  have da := y.da_
  have cn := y.cn_
  have r_r_ := x.r_
  have s_s_ := x.s_
  have dc := y.dc_
  have pc := y.pc_
  have pp := x.p_
  have fgc := y.fg_.1
  have f10 := x.f_
  have ra := y.ra_
  have a100 := x.a_
  have pic := y.pi_
  have t40 := x.t_
  have txx := y.tx_
  have e80 := x.e_
  refine S_go (k := 1) (ls := [some (.inr (some 0)), some (.inl f), some (.inl w), none]) (by decide) rfl (Nat.le_of_ble_eq_true rfl) rfl ?_
  refine G_aload_n (i := 0) dX11_form_0 rfl rfl ?_
  refine G_iload_n (i := 1) dX11_form_1 rfl rfl ?_
  refine G_cVr (as := [.inl f]) qX11_227 (x_figOr (d + 2) τ h hT x y f (by omega)) rfl rfl (Nat.le_of_ble_eq_true rfl) (o0 hT) dX11_form_2 (fun x' h' e1 => ?_)
  obtain ⟨e1, eh'⟩ := e1
  rw [eh']
  clear eh'
  by_cases hb : f_fig h f
  · obtain ⟨b, Lb, rfl, b1, b2, b3, b4, b5⟩ := e1.1 hb
    unfold f_fig at hb
    refine G_astore_n (i := 3) (ls' := [some (.inr (some 0)), some (.inl f), some (.inl w), some (.inr (some b))]) dX11_form_5 rfl (by decide) rfl ?_
    refine G_aload_n (i := 3) dX11_form_6 rfl rfl ?_
    refine G_ifnullS dX11_form_7 ?_
    refine G_iload_n (i := 2) dX11_form_10 rfl rfl ?_
    refine G_bipush dX11_form_11 (by decide) ?_
    refine G_icmp_ge (tgt := 19) dX11_form_13 (by decide) (by omega) (by decide) (fun c_1 => ?_) (fun c_1 => ?_)
    · refine G_aload_n (i := 0) dX11_form_19 rfl rfl ?_
      refine G_getR fX11_36 rfl dX11_form_20 (o0 hT) (r0_5 hT) ?_
      refine G_getI (v := h 81 1) fX11_157 rfl dX11_form_23 (o6 hT) (fn.1) ?_
      refine G_if_ne (tgt := 32) dX11_form_26 (by decide) (by omega) (fun c_2 => ?_) (fun c_2 => ?_)
      · refine G_aload_n (i := 0) dX11_form_32 rfl rfl ?_
        refine G_getR fX11_86 rfl dX11_form_33 (o0 hT) (r0_14 hT) ?_
        refine G_aload_n (i := 3) dX11_form_36 rfl rfl ?_
        refine G_aload_n (i := 0) dX11_form_37 rfl rfl ?_
        refine G_getR fX11_36 rfl dX11_form_38 (o0 hT) (r0_5 hT) ?_
        refine G_getI (v := h 81 1) fX11_157 rfl dX11_form_41 (o6 hT) (fn.1) ?_
        refine G_cVi (as := [.inr (some b), .inl (h 81 1)]) qX11_231 (x_cutDown d τ h hT 45 (fm45 hT) (h 81 1) (by omega) b Lb b1 (by omega) (f_N h f).toNat (f_S h f) b3 b4 b5) rfl rfl (Nat.le_of_ble_eq_true rfl) (o45 hT) dX11_form_44 (fun v1 g1 p1 => ?_)
        obtain ⟨q0, q1, f1⟩ := p1
        cases hA : w_run (h 81 1) (f_S h f) (f_N h f).toNat with
        | none =>
          obtain rfl := q0 hA
          refine G_if_ne (tgt := 53) dX11_form_47 (by decide) (by decide) (fun q => absurd q (by decide)) (fun _ => ?_)
          refine G_bipush dX11_form_50 (by decide) ?_
          refine G_iretZ rfl dX11_form_52 ?_
          exact ⟨(f_form_n (by omega) (by omega) hA).symm, f1⟩
        | some A =>
          obtain ⟨rfl, q2, q3, q4, q5⟩ := q1 A hA
          refine G_if_ne (tgt := 53) dX11_form_47 (by decide) (by decide) (fun _ => ?_) (fun q => absurd q (by decide))
          refine G_iload_n (i := 2) dX11_form_53 rfl rfl ?_
          refine G_bipush dX11_form_54 (by decide) ?_
          refine G_icmp_ne (tgt := 67) dX11_form_56 (by decide) (by omega) (by decide) (fun c_3 => ?_) (fun c_3 => ?_)
          · refine G_iload_n (i := 2) dX11_form_67 rfl rfl ?_
            refine G_iconst dX11_form_68 ?_
            refine G_icmp_ne (tgt := 80) dX11_form_69 (by decide) (by omega) (by decide) (fun c_4 => ?_) (fun c_4 => ?_)
            · refine G_iload_n (i := 2) dX11_form_80 rfl rfl ?_
              refine G_aload_n (i := 0) dX11_form_81 rfl rfl ?_
              refine G_getR fX11_86 rfl dX11_form_82 (o0 hT) (r0_14 hT) ?_
              refine G_getI (v := g1 45 1) fX11_238 rfl dX11_form_85 (o45 hT) rfl ?_
              refine G_icmp_ge (tgt := 103) dX11_form_88 (by decide) (by omega) (by omega) (fun c_5 => ?_) (fun c_5 => ?_)
              · refine G_bipush dX11_form_103 (by decide) ?_
                refine G_iretZ rfl dX11_form_105 ?_
                refine ⟨?_, f1⟩
                rw [f_form_s (by omega) (by omega) hA]
                (repeat (first | rw [if_pos (by omega)] | rw [if_neg (by omega)]))
              · refine G_aload_n (i := 0) dX11_form_91 rfl rfl ?_
                refine G_getR fX11_86 rfl dX11_form_92 (o0 hT) (r0_14 hT) ?_
                refine G_getR fX11_239 rfl dX11_form_95 (o45 hT) (r45_2 hT) ?_
                refine G_iload_n (i := 2) dX11_form_98 rfl rfl ?_
                refine G_iald (v := g1 46 ((w).toNat)) dX11_form_99 (o46 hT) (by omega) rfl ?_
                refine G_goto (tgt := 105) dX11_form_100 (by decide) ?_
                refine G_iretZ rfl dX11_form_105 ?_
                refine ⟨?_, f1⟩
                rw [f_form_s (by omega) (by omega) hA]
                rw [show g1 46 w.toNat = _ from q5 w.toNat (by omega)]; (repeat (first | rw [if_pos (by omega)] | rw [if_neg (by omega)]))
            · refine G_aload_n (i := 0) dX11_form_72 rfl rfl ?_
              refine G_getR fX11_86 rfl dX11_form_73 (o0 hT) (r0_14 hT) ?_
              refine G_getI (v := g1 45 1) fX11_238 rfl dX11_form_76 (o45 hT) rfl ?_
              refine G_iretZ rfl dX11_form_79 ?_
              refine ⟨?_, f1⟩
              rw [f_form_s (by omega) (by omega) hA]
              rw [q3]; (repeat (first | rw [if_pos (by omega)] | rw [if_neg (by omega)]))
          · refine G_aload_n (i := 0) dX11_form_59 rfl rfl ?_
            refine G_getR fX11_86 rfl dX11_form_60 (o0 hT) (r0_14 hT) ?_
            refine G_getI (v := g1 45 0) fX11_235 rfl dX11_form_63 (o45 hT) rfl ?_
            refine G_iretZ rfl dX11_form_66 ?_
            refine ⟨?_, f1⟩
            rw [f_form_s (by omega) (by omega) hA]
            rw [q2]; (repeat (first | rw [if_pos (by omega)] | rw [if_neg (by omega)]))
      · refine G_bipush dX11_form_29 (by decide) ?_
        refine G_iretZ rfl dX11_form_31 ?_
        exact ⟨by unfold f_form; (repeat (first | rw [if_pos (by omega)] | rw [if_neg (by omega)])), FRm.rf⟩
    · refine G_bipush dX11_form_16 (by decide) ?_
      refine G_iretZ rfl dX11_form_18 ?_
      exact ⟨by unfold f_form; (repeat (first | rw [if_pos (by omega)] | rw [if_neg (by omega)])), FRm.rf⟩
  · obtain rfl := e1.2 hb
    unfold f_fig at hb
    refine G_astore_n (i := 3) (ls' := [some (.inr (some 0)), some (.inl f), some (.inl w), some (.inr none)]) dX11_form_5 rfl (by decide) rfl ?_
    refine G_aload_n (i := 3) dX11_form_6 rfl rfl ?_
    refine G_ifnullN (tgt := 16) dX11_form_7 (by decide) ?_
    refine G_bipush dX11_form_16 (by decide) ?_
    refine G_iretZ rfl dX11_form_18 ?_
    exact ⟨by unfold f_form; (repeat (first | rw [if_pos (by omega)] | rw [if_neg (by omega)])), FRm.rf⟩

theorem x_akinM (d : Nat) (τ : TT) (h : HT) (hT : TK τ) (x : MI h) (y : XR τ h) (f e_ : Int) (r_f : -2147483648 ≤ f ∧ f ≤ 2147483647) (r_e_ : -2147483648 ≤ e_ ∧ e_ ≤ 2147483647) : S_ mX11_akin (d + 4) 0 0 [.inr (some 0), .inl f, .inl e_] τ h (Zi τ fun v h' => v = f_akin h f e_ ∧ ∀ b j : Nat, ¬ (45 ≤ b ∧ b ≤ 54) → h' b j = h b j) := by
  have n9 := x.n9
  have d1 := x.d1
  have n_ := x.n_
  have fn := y.fn_
  have da := y.da_
  have cn := y.cn_
  have r_r_ := x.r_
  have s_s_ := x.s_
  have dc := y.dc_
  have pc := y.pc_
  have pp := x.p_
  have fgc := y.fg_.1
  have f10 := x.f_
  have ra := y.ra_
  have a100 := x.a_
  have pic := y.pi_
  have t40 := x.t_
  have txx := y.tx_
  have e80 := x.e_
  refine S_go (k := 2) (ls := [some (.inr (some 0)), some (.inl f), some (.inl e_), none, none]) (by decide) rfl (Nat.le_of_ble_eq_true rfl) rfl ?_
  refine G_aload_n (i := 0) dX11_akin_0 rfl rfl ?_
  refine G_iload_n (i := 1) dX11_akin_1 rfl rfl ?_
  refine G_cVr (as := [.inl f]) qX11_227 (x_figOr (d + 2) τ h hT x y f (by omega)) rfl rfl (Nat.le_of_ble_eq_true rfl) (o0 hT) dX11_akin_2 (fun x' h' e1 => ?_)
  obtain ⟨e1, eh'⟩ := e1
  rw [eh']
  clear eh'
  by_cases hb : f_fig h f
  · obtain ⟨b, Lb, rfl, b1, b2, b3, b4, b5⟩ := e1.1 hb
    unfold f_fig at hb
    refine G_astore_n (i := 3) (ls' := [some (.inr (some 0)), some (.inl f), some (.inl e_), some (.inr (some b)), none]) dX11_akin_5 rfl (by decide) rfl ?_
    refine G_aload_n (i := 0) dX11_akin_6 rfl rfl ?_
    refine G_iload_n (i := 2) dX11_akin_7 rfl rfl ?_
    refine G_cVr (as := [.inl e_]) qX11_227 (x_figOr (d + 2) τ h hT x y e_ (by omega)) rfl rfl (Nat.le_of_ble_eq_true rfl) (o0 hT) dX11_akin_8 (fun x' h' e1 => ?_)
    obtain ⟨e1, eh'⟩ := e1
    rw [eh']
    clear eh'
    by_cases hb2 : f_fig h e_
    · obtain ⟨b2, Lb2, rfl, b21, b22, b23, b24, b25⟩ := e1.1 hb2
      unfold f_fig at hb2
      refine G_astore (ls' := [some (.inr (some 0)), some (.inl f), some (.inl e_), some (.inr (some b)), some (.inr (some b2))]) dX11_akin_11 (by decide) rfl ?_
      refine G_aload_n (i := 3) dX11_akin_13 rfl rfl ?_
      refine G_ifnullS dX11_akin_14 ?_
      refine G_aload dX11_akin_17 rfl ?_
      refine G_ifnonnullS (tgt := 24) dX11_akin_19 (by decide) ?_
      refine G_aload_n (i := 0) dX11_akin_24 rfl rfl ?_
      refine G_getR fX11_36 rfl dX11_akin_25 (o0 hT) (r0_5 hT) ?_
      refine G_getI (v := h 81 1) fX11_157 rfl dX11_akin_28 (o6 hT) (fn.1) ?_
      refine G_if_eq (tgt := 71) dX11_akin_31 (by decide) (by omega) (fun c_1 => ?_) (fun c_1 => ?_)
      · refine G_bipush dX11_akin_71 (by decide) ?_
        refine G_iretZ rfl dX11_akin_73 ?_
        exact ⟨by unfold f_akin; (repeat (first | rw [if_pos (by omega)] | rw [if_neg (by omega)])), fun _ _ _ => rfl⟩
      · refine G_aload_n (i := 0) dX11_akin_34 rfl rfl ?_
        refine G_getR fX11_86 rfl dX11_akin_35 (o0 hT) (r0_14 hT) ?_
        refine G_aload_n (i := 3) dX11_akin_38 rfl rfl ?_
        refine G_aload_n (i := 0) dX11_akin_39 rfl rfl ?_
        refine G_getR fX11_36 rfl dX11_akin_40 (o0 hT) (r0_5 hT) ?_
        refine G_getI (v := h 81 1) fX11_157 rfl dX11_akin_43 (o6 hT) (fn.1) ?_
        refine G_cVi (as := [.inr (some b), .inl (h 81 1)]) qX11_231 (x_cutDown d τ h hT 45 (fm45 hT) (h 81 1) (by omega) b Lb b1 (by omega) (f_N h f).toNat (f_S h f) b3 b4 b5) rfl rfl (Nat.le_of_ble_eq_true rfl) (o45 hT) dX11_akin_46 (fun v1 g1 p1 => ?_)
        obtain ⟨q0, q1, f1⟩ := p1
        cases hA : w_run (h 81 1) (f_S h f) (f_N h f).toNat with
        | none =>
          obtain rfl := q0 hA
          refine G_if_eq (tgt := 71) dX11_akin_49 (by decide) (by decide) (fun _ => ?_) (fun q => absurd q (by decide))
          refine G_bipush dX11_akin_71 (by decide) ?_
          refine G_iretZ rfl dX11_akin_73 ?_
          exact ⟨(f_akin_n (by omega) (by omega) hA).symm, fun b j z => f1 b j (by omega)⟩
        | some A =>
          obtain ⟨rfl, q2, q3, q4, q5⟩ := q1 A hA
          refine G_if_eq (tgt := 71) dX11_akin_49 (by decide) (by decide) (fun q => absurd q (by decide)) (fun _ => ?_)
          refine G_aload_n (i := 0) dX11_akin_52 rfl rfl ?_
          refine G_getR fX11_90 rfl dX11_akin_53 (o0 hT) (r0_15 hT) ?_
          refine G_aload dX11_akin_56 rfl ?_
          refine G_aload_n (i := 0) dX11_akin_58 rfl rfl ?_
          refine G_getR fX11_36 rfl dX11_akin_59 (o0 hT) (r0_5 hT) ?_
          refine G_getI (v := h 81 1) fX11_157 rfl dX11_akin_62 (o6 hT) (((f1 _ _ (by omega)).trans fn.1)) ?_
          refine G_cVi (as := [.inr (some b2), .inl (h 81 1)]) qX11_231 (x_cutDown d τ g1 hT 50 (fm50 hT) (h 81 1) (by omega) b2 Lb2 b21 (by omega) (f_N h e_).toNat (f_S h e_) ((f1 _ _ (by omega)).trans b23) b24 (fun k hk => ⟨(f1 _ _ (by omega)).trans (b25 k hk).1, (b25 k hk).2⟩)) rfl rfl (Nat.le_of_ble_eq_true rfl) (o50 hT) dX11_akin_65 (fun v1 g2 p1 => ?_)
          obtain ⟨k0, k1, f2⟩ := p1
          cases hB : w_run (h 81 1) (f_S h e_) (f_N h e_).toNat with
          | none =>
            obtain rfl := k0 hB
            refine G_if_ne (tgt := 74) dX11_akin_68 (by decide) (by decide) (fun q => absurd q (by decide)) (fun _ => ?_)
            refine G_bipush dX11_akin_71 (by decide) ?_
            refine G_iretZ rfl dX11_akin_73 ?_
            exact ⟨(f_akin_m (by omega) (by omega) hA hB).symm, fun b j z => (f2 b j (by omega)).trans (f1 b j (by omega))⟩
          | some B =>
            obtain ⟨rfl, k2, k3, k4, k5⟩ := k1 B hB
            refine G_if_ne (tgt := 74) dX11_akin_68 (by decide) (by decide) (fun _ => ?_) (fun q => absurd q (by decide))
            refine G_aload_n (i := 0) dX11_akin_74 rfl rfl ?_
            refine G_getR fX11_86 rfl dX11_akin_75 (o0 hT) (r0_14 hT) ?_
            have e45 : g2 45 0 = A.1 := (f2 _ _ (by omega)).trans q2
            have e451 : g2 45 1 = (A.2.1 : Int) := (f2 _ _ (by omega)).trans q3
            have e46 : ∀ j : Nat, j < A.2.1 → g2 46 j = w_srt (h 81 1) A.2.1 A.2.2 A.2.1 j := fun j hj => (f2 _ _ (by omega)).trans (q5 j hj)
            have oA := w_run_ok (by omega) _ (fun j hj => (b5 j hj).2) _ hA
            have oB := w_run_ok (by omega) _ (fun j hj => (b25 j hj).2) _ hB
            have rgs : ∀ j : Nat, j < 300 → ((j : Int) < g2 45 1 → 0 ≤ g2 (45 + 1) j ∧ g2 (45 + 1) j ≤ 99) ∧ ((j : Int) < g2 50 1 → 0 ≤ g2 (50 + 1) j ∧ g2 (50 + 1) j ≤ 99) := fun j hj => ⟨fun z => (by rw [show g2 (45 + 1) j = _ from e46 j (by omega)]; have := w_cd_r (w_srt_ok oA.2.2.2 A.2.1 (Nat.le_refl _) j (by omega)); omega), fun z => (by rw [show g2 (50 + 1) j = _ from k5 j (by omega)]; have := w_cd_r (w_srt_ok oB.2.2.2 B.2.1 (Nat.le_refl _) j (by omega)); omega)⟩
            refine G_aload_n (i := 0) dX11_akin_78 rfl rfl ?_
            refine G_getR fX11_90 rfl dX11_akin_79 (o0 hT) (r0_15 hT) ?_
            refine G_cVi (as := [.inr (some 50)]) qX11_242 (x_isLike (d + 3) τ g2 hT 45 (fm45 hT) 50 (fm50 hT) (by omega) (by omega) (by omega) (by omega) rgs) rfl rfl (Nat.le_of_ble_eq_true rfl) (o45 hT) dX11_akin_82 (fun v3 h3 e3 => ?_)
            obtain ⟨ei, eh3⟩ := e3
            rw [eh3]
            clear eh3
            rcases ei with ⟨rfl, cl⟩ | ⟨rfl, cl⟩
            · refine G_if_eq (tgt := 92) dX11_akin_85 (by decide) (by decide) (fun q => absurd q (by decide)) (fun _ => ?_)
              refine G_iconst dX11_akin_88 ?_
              refine G_goto (tgt := 93) dX11_akin_89 (by decide) ?_
              refine G_iretZ rfl dX11_akin_93 ?_
              refine ⟨?_, fun b j z => (f2 b j (by omega)).trans (f1 b j (by omega))⟩
              rw [f_akin_s (by omega) (by omega) hA hB]
              have cp : (A.1 = B.1 ∧ A.2.1 = B.2.1) ∧ ∀ j : Nat, j < A.2.1 → w_srt (h 81 1) B.2.1 B.2.2 B.2.1 j = w_srt (h 81 1) A.2.1 A.2.2 A.2.1 j := ⟨⟨by omega, by omega⟩, fun j hj => (k5 j (by omega)).symm.trans ((cl.2 j (by omega)).trans (e46 j hj))⟩
              rw [if_pos cp]
            · refine G_if_eq (tgt := 92) dX11_akin_85 (by decide) (by decide) (fun _ => ?_) (fun q => absurd q (by decide))
              refine G_iconst dX11_akin_92 ?_
              refine G_iretZ rfl dX11_akin_93 ?_
              refine ⟨?_, fun b j z => (f2 b j (by omega)).trans (f1 b j (by omega))⟩
              rw [f_akin_s (by omega) (by omega) hA hB]
              rw [if_neg (fun q => cl ⟨⟨by omega, by omega⟩, fun j hj => ?_⟩)]
              show g2 51 j = g2 46 j
              rw [show g2 51 j = _ from k5 j (by omega), e46 j (by omega)]
              exact q.2 j (by omega)
    · obtain rfl := e1.2 hb2
      unfold f_fig at hb2
      refine G_astore (ls' := [some (.inr (some 0)), some (.inl f), some (.inl e_), some (.inr (some b)), some (.inr none)]) dX11_akin_11 (by decide) rfl ?_
      refine G_aload_n (i := 3) dX11_akin_13 rfl rfl ?_
      refine G_ifnullS dX11_akin_14 ?_
      refine G_aload dX11_akin_17 rfl ?_
      refine G_ifnonnullN dX11_akin_19 ?_
      refine G_iconst dX11_akin_22 ?_
      refine G_iretZ rfl dX11_akin_23 ?_
      exact ⟨by unfold f_akin; (repeat (first | rw [if_pos (by omega)] | rw [if_neg (by omega)])), fun _ _ _ => rfl⟩
  · obtain rfl := e1.2 hb
    unfold f_fig at hb
    refine G_astore_n (i := 3) (ls' := [some (.inr (some 0)), some (.inl f), some (.inl e_), some (.inr none), none]) dX11_akin_5 rfl (by decide) rfl ?_
    refine G_aload_n (i := 0) dX11_akin_6 rfl rfl ?_
    refine G_iload_n (i := 2) dX11_akin_7 rfl rfl ?_
    refine G_cVr (as := [.inl e_]) qX11_227 (x_figOr (d + 2) τ h hT x y e_ (by omega)) rfl rfl (Nat.le_of_ble_eq_true rfl) (o0 hT) dX11_akin_8 (fun x' h' e1 => ?_)
    obtain ⟨e1, eh'⟩ := e1
    rw [eh']
    clear eh'
    by_cases hb2 : f_fig h e_
    · obtain ⟨b2, Lb2, rfl, b21, b22, b23, b24, b25⟩ := e1.1 hb2
      unfold f_fig at hb2
      refine G_astore (ls' := [some (.inr (some 0)), some (.inl f), some (.inl e_), some (.inr none), some (.inr (some b2))]) dX11_akin_11 (by decide) rfl ?_
      refine G_aload_n (i := 3) dX11_akin_13 rfl rfl ?_
      refine G_ifnullN (tgt := 22) dX11_akin_14 (by decide) ?_
      refine G_iconst dX11_akin_22 ?_
      refine G_iretZ rfl dX11_akin_23 ?_
      exact ⟨by unfold f_akin; (repeat (first | rw [if_pos (by omega)] | rw [if_neg (by omega)])), fun _ _ _ => rfl⟩
    · obtain rfl := e1.2 hb2
      unfold f_fig at hb2
      refine G_astore (ls' := [some (.inr (some 0)), some (.inl f), some (.inl e_), some (.inr none), some (.inr none)]) dX11_akin_11 (by decide) rfl ?_
      refine G_aload_n (i := 3) dX11_akin_13 rfl rfl ?_
      refine G_ifnullN (tgt := 22) dX11_akin_14 (by decide) ?_
      refine G_iconst dX11_akin_22 ?_
      refine G_iretZ rfl dX11_akin_23 ?_
      exact ⟨by unfold f_akin; (repeat (first | rw [if_pos (by omega)] | rw [if_neg (by omega)])), fun _ _ _ => rfl⟩

theorem f_S_r {h h1 : HT} (rf : RF h h1) (f : Int) : f_S h1 f = f_S h f ∧ f_N h1 f = f_N h f := by
  have e9 : ∀ a, 81 ≤ a → a ≤ 125 → h1 a = h a := fun a z1 z2 => funext fun k => rf a k z1 z2
  refine ⟨funext fun k => ?_, ?_⟩
  · unfold f_S; rw [e9 103 (by decide) (by decide), e9 93 (by decide) (by decide)]
  · unfold f_N; rw [e9 102 (by decide) (by decide), e9 81 (by decide) (by decide)]
theorem f_form_c {h h1 : HT} (rf : RF h h1) (f w : Int) : f_form h1 f w = f_form h f w := by
  unfold f_form; rw [(f_S_r rf f).1, (f_S_r rf f).2, rf 81 26 (by decide) (by decide), rf 81 1 (by decide) (by decide)]
theorem f_akin_c {h h1 : HT} (rf : RF h h1) (f w : Int) : f_akin h1 f w = f_akin h f w := by
  unfold f_akin; rw [(f_S_r rf f).1, (f_S_r rf f).2, (f_S_r rf w).1, (f_S_r rf w).2, rf 81 26 (by decide) (by decide), rf 81 1 (by decide) (by decide)]
theorem op_form {τ : TT} {h : HT} (s : SIM τ h) (f w : Int) (r_f : -2147483648 ≤ f ∧ f ≤ 2147483647) (r_w : -2147483648 ≤ w ∧ w ≤ 2147483647) : OPS mX11_form mX12_form 20 0 0 [.inl f, .inl w] τ h := by
  obtain ⟨hT, x, y⟩ := s
  refine OPS_q ⟨hT, x, y⟩ (fun v h1 => v = f_form h f w ∧ RF h h1) (fun d => S_mono ?_ (x_formM (d + 16) τ h hT x y f w r_f r_w)) (fun d v h1 p1 kp s1 => S_mono ?_ (m_form (d + 16) τ h1 hT f w r_f r_w s1.2.1)) (fun v h1 p1 _ j => p1.2 100 j (by decide) (by decide))
  · rintro r τ2 h2 ⟨rfl, v, rfl, q1, q2⟩
    exact ⟨rfl, v, rfl, ⟨q1, fun a i z1 z2 => q2 a i (by omega)⟩, fun a i q => q2 a i (by unfold SCR at q; omega)⟩
  · rintro r τ2 h2 ⟨rfl, v', rfl, q1, q2⟩
    refine ⟨rfl, v', rfl, ?_, fun a i q => q2 a i (by unfold SCR at q; omega) (by unfold SCR at q; omega), fun j hj => ?_⟩
    · rw [q1, p1.1, f_form_c p1.2]
    · rw [q2 100 j (by decide) (by omega)]; exact s1.2.2.gs_ j hj
theorem op_akin {τ : TT} {h : HT} (s : SIM τ h) (f w : Int) (r_f : -2147483648 ≤ f ∧ f ≤ 2147483647) (r_w : -2147483648 ≤ w ∧ w ≤ 2147483647) : OPS mX11_akin mX12_akin 20 0 0 [.inl f, .inl w] τ h := by
  obtain ⟨hT, x, y⟩ := s
  refine OPS_q ⟨hT, x, y⟩ (fun v h1 => v = f_akin h f w ∧ RF h h1) (fun d => S_mono ?_ (x_akinM (d + 16) τ h hT x y f w r_f r_w)) (fun d v h1 p1 kp s1 => S_mono ?_ (m_akin (d + 16) τ h1 hT f w r_f r_w s1.2.1)) (fun v h1 p1 _ j => p1.2 100 j (by decide) (by decide))
  · rintro r τ2 h2 ⟨rfl, v, rfl, q1, q2⟩
    exact ⟨rfl, v, rfl, ⟨q1, fun a i z1 z2 => q2 a i (by omega)⟩, fun a i q => q2 a i (by unfold SCR at q; omega)⟩
  · rintro r τ2 h2 ⟨rfl, v', rfl, q1, q2⟩
    refine ⟨rfl, v', rfl, ?_, fun a i q => q2 a i (by unfold SCR at q; omega) (by unfold SCR at q; omega) (by unfold SCR at q; omega), fun j hj => ?_⟩
    · rw [q1, p1.1, f_akin_c p1.2]
    · rw [q2 100 j (by decide) (by decide) (by omega)]; exact s1.2.2.gs_ j hj
