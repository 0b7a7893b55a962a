/-! operations: fewest -/
def fw_g (h : HT) (t w : Int) : Prop := ((0 ≤ t ∧ t ≤ 5) ∧ -1 ≤ w) ∧ ¬ (h 81 1 = 0 ∨ 7 < h 81 1) ∧ h 122 t.toNat = 0 ∧ ¬ h 123 t.toNat < h 81 1
def fw_o (h : HT) (t w : Int) : Int := if ¬ (0 ≤ t ∧ t ≤ 5) ∨ w < -1 then -1 else if h 81 1 = 0 ∨ 7 < h 81 1 then -3 else if h 122 t.toNat < 0 then -11 else if h 122 t.toNat ≠ 0 then -12 else -13
def fw_v (n : Nat) (G o : Nat → Int) (w : Int) : Int := if w = -1 then fD n G o else if w < fD n G o then ((g_p n (fD n G) (g_at n (fD n G) o w.toNat) : Nat) : Int) else -1
def fw_r (h : HT) (n : Nat) (t w v : Int) : Prop := (¬ fw_g h t w → v = fw_o h t w) ∧ (fw_g h t w → (¬ isP n (f_gl h t) → v = -2) ∧ (isP n (f_gl h t) → ∃ G : Nat → Int, isP n G ∧ (∀ p : Nat, p < n → G (f_gl h t p).toNat = p) ∧ v = fw_v n G (h 86) w))
theorem MI.P86 {h : HT} (x : MI h) {n : Nat} (hn : h 81 1 = n) : isP n (h 86) := ⟨fun p hp => by have := x.ha_ p (by omega); omega, fun p q hp hq e => x.hi_ p q (by omega) (by omega) e⟩
theorem x_fewestM (d : Nat) (τ : TT) (h : HT) (hT : TK τ) (x : MI h) (y : XR τ h) (t w : Int) (r_t : -2147483648 ≤ t ∧ t ≤ 2147483647) (r_w : -2147483648 ≤ w ∧ w ≤ 2147483647) (n : Nat) (hn : h 81 1 = n) : S_ mX11_fewest (d + 4) 0 0 [.inr (some 0), .inl t, .inl w] τ h (Zi τ fun v h' => fw_r h n t w v ∧ ∀ c j : Nat, ¬ (55 ≤ c ∧ c ≤ 59) → h' c j = h c j) := by
  have n9 := x.n9
  have d1 := x.d1
  have n_ := x.n_
  have fn := y.fn_
  have da := y.da_
  have cn := y.cn_
  have r_r_ := x.r_
  have s_s_ := x.s_
  have dc := y.dc_
  have pc := y.pc_
  have pp := x.p_
  have fgc := y.fg_.1
  have f10 := x.f_
  have ra := y.ra_
  have a100 := x.a_
  have pic := y.pi_
  have t40 := x.t_
  have txx := y.tx_
  have e80 := x.e_
  have o86 := x.P86 hn
  refine S_go (k := 2) (ls := [some (.inr (some 0)), some (.inl t), some (.inl w), none, none]) (by decide) rfl (Nat.le_of_ble_eq_true rfl) rfl ?_
  refine G_aload_n (i := 0) dX11_fewest_0 rfl rfl ?_
  refine G_iload_n (i := 1) dX11_fewest_1 rfl rfl ?_
  refine G_cVr (as := [.inl t]) qX11_278 (x_tapeAt (d + 3) τ h hT t (by omega)) rfl rfl (Nat.le_of_ble_eq_true rfl) (o0 hT) dX11_fewest_2 (fun x' h' e' => ?_)
  obtain ⟨rfl, eh'⟩ := e'
  rw [eh']
  clear eh'
  by_cases hb : 0 ≤ t ∧ t < 6
  · rw [if_pos hb]
    obtain ⟨b, b1, b2, b3⟩ := tape_ref hT (T := (t).toNat) (by omega)
    rw [b2]
    have bt := y.tp_ (t).toNat (by omega)
    rw [show 69 + 2 * (t).toNat = b from b1.symm, show 70 + 2 * (t).toNat = b + 1 by omega] at bt
    have bs := x.si_ (t).toNat (by omega)
    have bo := x.so_ (t).toNat (by omega)
    have bn := y.sn_ (t).toNat (by omega)
    refine G_astore_n (i := 3) (ls' := [some (.inr (some 0)), some (.inl t), some (.inl w), some (.inr (some b)), none]) dX11_fewest_5 rfl (by decide) rfl ?_
    refine G_aload_n (i := 3) dX11_fewest_6 rfl rfl ?_
    refine G_ifnullS dX11_fewest_7 ?_
    refine G_iload_n (i := 2) dX11_fewest_10 rfl rfl ?_
    refine G_iconst dX11_fewest_11 ?_
    refine G_icmp_ge (tgt := 17) dX11_fewest_12 (by decide) (by omega) (by decide) (fun c_1 => ?_) (fun c_1 => ?_)
    · refine G_aload_n (i := 0) dX11_fewest_17 rfl rfl ?_
      refine G_getR fX11_36 rfl dX11_fewest_18 (o0 hT) (r0_5 hT) ?_
      refine G_getI (v := (n : Int)) fX11_157 rfl dX11_fewest_21 (o6 hT) ((fn.1.trans hn)) ?_
      refine G_istore (ls' := [some (.inr (some 0)), some (.inl t), some (.inl w), some (.inr (some b)), some (.inl (n : Int))]) dX11_fewest_24 (by decide) rfl ?_
      refine G_iload dX11_fewest_26 rfl ?_
      refine G_if_eq (tgt := 38) dX11_fewest_28 (by decide) (by omega) (fun c_2 => ?_) (fun c_2 => ?_)
      · refine G_bipush dX11_fewest_38 (by decide) ?_
        refine G_iretZ rfl dX11_fewest_40 ?_
        exact ⟨⟨fun _ => by unfold fw_o; (repeat (first | rw [if_pos (by omega)] | rw [if_neg (by omega)])), fun q => absurd q (by unfold fw_g; omega)⟩, fun _ _ _ => rfl⟩
      · refine G_iload dX11_fewest_31 rfl ?_
        refine G_bipush dX11_fewest_33 (by decide) ?_
        refine G_icmp_le (tgt := 41) dX11_fewest_35 (by decide) (by omega) (by decide) (fun c_3 => ?_) (fun c_3 => ?_)
        · refine G_aload_n (i := 3) dX11_fewest_41 rfl rfl ?_
          refine G_getI (v := h b 0) fX11_282 rfl dX11_fewest_42 b3.1 rfl ?_
          refine G_iconst dX11_fewest_45 ?_
          refine G_icmp_ne (tgt := 52) dX11_fewest_46 (by decide) (by omega) (by decide) (fun c_4 => ?_) (fun c_4 => ?_)
          · refine G_aload_n (i := 3) dX11_fewest_52 rfl rfl ?_
            refine G_getI (v := h b 0) fX11_282 rfl dX11_fewest_53 b3.1 rfl ?_
            refine G_if_eq (tgt := 62) dX11_fewest_56 (by decide) (by omega) (fun c_5 => ?_) (fun c_5 => ?_)
            · refine G_aload_n (i := 3) dX11_fewest_62 rfl rfl ?_
              refine G_getI (v := h b 1) fX11_285 rfl dX11_fewest_63 b3.1 rfl ?_
              refine G_iload dX11_fewest_66 rfl ?_
              refine G_icmp_ge (tgt := 74) dX11_fewest_68 (by decide) (by omega) (by omega) (fun c_6 => ?_) (fun c_6 => ?_)
              · refine G_aload_n (i := 0) dX11_fewest_74 rfl rfl ?_
                refine G_getR fX11_96 rfl dX11_fewest_75 (o0 hT) (r0_16 hT) ?_
                refine G_aload_n (i := 0) dX11_fewest_78 rfl rfl ?_
                refine G_getR fX11_36 rfl dX11_fewest_79 (o0 hT) (r0_5 hT) ?_
                refine G_aload_n (i := 3) dX11_fewest_82 rfl rfl ?_
                refine G_getR fX11_286 rfl dX11_fewest_83 b3.1 b3.2.2 ?_
                refine G_cVi (as := [.inr (some 6), .inr (some (b + 1))]) qX11_289 (x_ask (d + 2) τ h hT n (by omega) (b + 1) b3.2.1 (by omega) (f_gl h t) (by omega) (fun p hp => bt.2.2 p (by omega)) (fun p hp => x.it_ _ (by omega)) (fun p hp => by rw [y.or_ p (by omega)]; exact o86.1 p hp)) rfl rfl (Nat.le_of_ble_eq_true rfl) (o55 hT) dX11_fewest_86 (fun v1 g q1 => ?_)
                obtain ⟨k1, k2, f1⟩ := q1
                by_cases P : isP n (f_gl h t)
                · obtain ⟨rfl, G, G1, G2, G3⟩ := k1 P
                  refine G_if_ne (tgt := 95) dX11_fewest_89 (by decide) (by decide) (fun _ => ?_) (fun q => absurd q (by decide))
                  refine G_aload_n (i := 0) dX11_fewest_95 rfl rfl ?_
                  refine G_getR fX11_96 rfl dX11_fewest_96 (o0 hT) (r0_16 hT) ?_
                  refine G_iload dX11_fewest_99 rfl ?_
                  refine G_cVv (as := [.inl (n : Int)]) qX11_293 (x_search d τ g hT n (by omega) G (h 86) G1 o86 (fun p hp => by rw [G3 p hp, y.or_ p (by omega)])) rfl rfl (Nat.le_of_ble_eq_true rfl) (o55 hT) dX11_fewest_101 (fun g2 q2 => ?_)
                  obtain ⟨m1, m2, f2⟩ := q2
                  have bD := (fD_BF (n := n) (by omega) G1).2.1 _ o86
                  refine G_iload_n (i := 2) dX11_fewest_104 rfl rfl ?_
                  refine G_iconst dX11_fewest_105 ?_
                  refine G_icmp_ne (tgt := 117) dX11_fewest_106 (by decide) (by omega) (by decide) (fun c_7 => ?_) (fun c_7 => ?_)
                  · refine G_iload_n (i := 2) dX11_fewest_117 rfl rfl ?_
                    refine G_aload_n (i := 0) dX11_fewest_118 rfl rfl ?_
                    refine G_getR fX11_96 rfl dX11_fewest_119 (o0 hT) (r0_16 hT) ?_
                    refine G_getI (v := g2 55 4) fX11_296 rfl dX11_fewest_122 (o55 hT) rfl ?_
                    refine G_icmp_ge (tgt := 140) dX11_fewest_125 (by decide) (by omega) (by omega) (fun c_8 => ?_) (fun c_8 => ?_)
                    · refine G_iconst dX11_fewest_140 ?_
                      refine G_iretZ rfl dX11_fewest_141 ?_
                      refine ⟨⟨fun q => absurd (show fw_g h t w by unfold fw_g; omega) q, fun _ => ⟨fun q => absurd P q, fun _ => ⟨G, G1, G2, ?_⟩⟩⟩, fun c j z => (f2 c j (by omega) (by omega) (by omega) (by omega)).trans (f1 c j (by omega) (by omega))⟩
                      unfold fw_v
                      rw [if_neg (by omega), if_neg (by omega)]
                    · refine G_aload_n (i := 0) dX11_fewest_128 rfl rfl ?_
                      refine G_getR fX11_96 rfl dX11_fewest_129 (o0 hT) (r0_16 hT) ?_
                      refine G_getR fX11_297 rfl dX11_fewest_132 (o55 hT) (r55_3 hT) ?_
                      refine G_iload_n (i := 2) dX11_fewest_135 rfl rfl ?_
                      refine G_iald (v := g2 59 ((w).toNat)) dX11_fewest_136 (o59 hT) (by omega) rfl ?_
                      refine G_goto (tgt := 141) dX11_fewest_137 (by decide) ?_
                      refine G_iretZ rfl dX11_fewest_141 ?_
                      refine ⟨⟨fun q => absurd (show fw_g h t w by unfold fw_g; omega) q, fun _ => ⟨fun q => absurd P q, fun _ => ⟨G, G1, G2, ?_⟩⟩⟩, fun c j z => (f2 c j (by omega) (by omega) (by omega) (by omega)).trans (f1 c j (by omega) (by omega))⟩
                      unfold fw_v
                      rw [if_neg (by omega), if_pos (by omega)]; exact m2 w.toNat (by omega)
                  · refine G_aload_n (i := 0) dX11_fewest_109 rfl rfl ?_
                    refine G_getR fX11_96 rfl dX11_fewest_110 (o0 hT) (r0_16 hT) ?_
                    refine G_getI (v := g2 55 4) fX11_296 rfl dX11_fewest_113 (o55 hT) rfl ?_
                    refine G_iretZ rfl dX11_fewest_116 ?_
                    refine ⟨⟨fun q => absurd (show fw_g h t w by unfold fw_g; omega) q, fun _ => ⟨fun q => absurd P q, fun _ => ⟨G, G1, G2, ?_⟩⟩⟩, fun c j z => (f2 c j (by omega) (by omega) (by omega) (by omega)).trans (f1 c j (by omega) (by omega))⟩
                    unfold fw_v
                    rw [if_pos (by omega)]; exact m1
                · obtain rfl := k2 P
                  refine G_if_ne (tgt := 95) dX11_fewest_89 (by decide) (by decide) (fun q => absurd q (by decide)) (fun _ => ?_)
                  refine G_bipush dX11_fewest_92 (by decide) ?_
                  refine G_iretZ rfl dX11_fewest_94 ?_
                  exact ⟨⟨fun q => absurd (show fw_g h t w by unfold fw_g; omega) q, fun _ => ⟨fun _ => rfl, fun q => absurd q P⟩⟩, fun c j z => f1 c j (by omega) (by omega)⟩
              · refine G_bipush dX11_fewest_71 (by decide) ?_
                refine G_iretZ rfl dX11_fewest_73 ?_
                exact ⟨⟨fun _ => by unfold fw_o; (repeat (first | rw [if_pos (by omega)] | rw [if_neg (by omega)])), fun q => absurd q (by unfold fw_g; omega)⟩, fun _ _ _ => rfl⟩
            · refine G_bipush dX11_fewest_59 (by decide) ?_
              refine G_iretZ rfl dX11_fewest_61 ?_
              exact ⟨⟨fun _ => by unfold fw_o; (repeat (first | rw [if_pos (by omega)] | rw [if_neg (by omega)])), fun q => absurd q (by unfold fw_g; omega)⟩, fun _ _ _ => rfl⟩
          · refine G_bipush dX11_fewest_49 (by decide) ?_
            refine G_iretZ rfl dX11_fewest_51 ?_
            exact ⟨⟨fun _ => by unfold fw_o; (repeat (first | rw [if_pos (by omega)] | rw [if_neg (by omega)])), fun q => absurd q (by unfold fw_g; omega)⟩, fun _ _ _ => rfl⟩
        · refine G_bipush dX11_fewest_38 (by decide) ?_
          refine G_iretZ rfl dX11_fewest_40 ?_
          exact ⟨⟨fun _ => by unfold fw_o; (repeat (first | rw [if_pos (by omega)] | rw [if_neg (by omega)])), fun q => absurd q (by unfold fw_g; omega)⟩, fun _ _ _ => rfl⟩
    · refine G_iconst dX11_fewest_15 ?_
      refine G_iretZ rfl dX11_fewest_16 ?_
      exact ⟨⟨fun _ => by unfold fw_o; (repeat (first | rw [if_pos (by omega)] | rw [if_neg (by omega)])), fun q => absurd q (by unfold fw_g; omega)⟩, fun _ _ _ => rfl⟩
  · rw [if_neg hb]
    refine G_astore_n (i := 3) (ls' := [some (.inr (some 0)), some (.inl t), some (.inl w), some (.inr none), none]) dX11_fewest_5 rfl (by decide) rfl ?_
    refine G_aload_n (i := 3) dX11_fewest_6 rfl rfl ?_
    refine G_ifnullN (tgt := 15) dX11_fewest_7 (by decide) ?_
    refine G_iconst dX11_fewest_15 ?_
    refine G_iretZ rfl dX11_fewest_16 ?_
    exact ⟨⟨fun _ => by unfold fw_o; (repeat (first | rw [if_pos (by omega)] | rw [if_neg (by omega)])), fun q => absurd q (by unfold fw_g; omega)⟩, fun _ _ _ => rfl⟩

theorem isP_inv {n : Nat} {T : Nat → Int} (t : isP n T) : ∃ G : Nat → Int, isP n G ∧ ∀ p : Nat, p < n → G (T p).toNat = p := by
  have ex : ∀ r : Nat, ∃ q : Nat, r < n → q < n ∧ T q = r := fun r => by
    by_cases h : r < n
    · obtain ⟨q, a, b⟩ := isP_onto t r h
      exact ⟨q, fun _ => ⟨a, b⟩⟩
    · exact ⟨0, fun q => absurd q h⟩
  obtain ⟨f, hf⟩ := Classical.axiomOfChoice ex
  refine ⟨fun r => ((f r : Nat) : Int), ⟨fun r hr => ?_, fun r s hr hs e => ?_⟩, fun p hp => ?_⟩
  · have := hf r hr
    dsimp only at this ⊢
    omega
  · have a := hf r hr
    have b := hf s hs
    dsimp only at a b e
    have e2 : f r = f s := by omega
    rw [e2, b.2] at a
    omega
  · have r := t.1 p hp
    have a := hf (T p).toNat (by omega)
    dsimp only at a ⊢
    have := t.2 (f (T p).toNat) p a.1 hp (by rw [a.2]; omega)
    omega
theorem op_fewest {τ : TT} {h : HT} (s : SIM τ h) (t w : Int) (r_t : -2147483648 ≤ t ∧ t ≤ 2147483647) (r_w : -2147483648 ≤ w ∧ w ≤ 2147483647) : OPS mX11_fewest mX12_fewest 20 0 0 [.inl t, .inl w] τ h := by
  obtain ⟨hT, x, y⟩ := s
  obtain ⟨n, hn⟩ : ∃ n : Nat, h 81 1 = n := ⟨(h 81 1).toNat, by have := x.n9; omega⟩
  refine OPS_q ⟨hT, x, y⟩ (fun v h1 => fw_r h n t w v ∧ RF h h1) (fun d => S_mono ?_ (x_fewestM (d + 16) τ h hT x y t w r_t r_w n hn)) (fun d v h1 p1 kp s1 => ?_) (fun v h1 p1 _ j => p1.2 100 j (by decide) (by decide))
  · rintro r τ2 h2 ⟨rfl, v, rfl, q1, q2⟩
    exact ⟨rfl, v, rfl, ⟨q1, fun a i z1 z2 => q2 a i (by omega)⟩, fun a i q => q2 a i (by unfold SCR at q; omega)⟩
  · obtain ⟨G, g1, g2⟩ : ∃ G : Nat → Int, (isP n (f_gl h t) → isP n G ∧ ∀ p : Nat, p < n → G (f_gl h t p).toNat = p) ∧ (fw_g h t w → isP n (f_gl h t) → v = fw_v n G (h 86) w) := by
      by_cases P : isP n (f_gl h t)
      · by_cases g : fw_g h t w
        · obtain ⟨G, a, b, c⟩ := (p1.1.2 g).2 P
          exact ⟨G, fun _ => ⟨a, b⟩, fun _ _ => c⟩
        · obtain ⟨G, a, b⟩ := isP_inv P
          exact ⟨G, fun _ => ⟨a, b⟩, fun q => absurd q g⟩
      · exact ⟨fun _ => 0, fun q => absurd q P, fun _ q => absurd q P⟩
    have eg : f_gl h1 t = f_gl h t := funext fun p => p1.2 124 _ (by decide) (by decide)
    refine S_mono ?_ (m_fewest (d + 17) τ h1 hT t w r_t r_w s1.2.1 n ((p1.2 81 1 (by decide) (by decide)).trans hn) (fD n G) (fun z P => ?_))
    · rintro r τ2 h2 ⟨rfl, v', rfl, q1, q2⟩
      refine ⟨rfl, v', rfl, ?_, fun a i q => q2 a i (by unfold SCR at q; omega) (by unfold SCR at q; omega), fun j hj => ?_⟩
      · rw [eg, p1.2 81 1 (by decide) (by decide), p1.2 122 _ (by decide) (by decide), p1.2 123 _ (by decide) (by decide), show h1 86 = h 86 from funext fun k => p1.2 86 k (by decide) (by decide)] at q1
        rw [q1]
        by_cases g : fw_g h t w
        · have g' := g
          unfold fw_g at g'
          rw [if_neg (by omega), if_neg (by omega), if_neg (by omega), if_neg (by omega), if_neg (by omega)]
          by_cases P : isP n (f_gl h t)
          · rw [if_pos P, g2 g P]; rfl
          · rw [if_neg P, (p1.1.2 g).1 P]
        · rw [p1.1.1 g]
          unfold fw_o
          unfold fw_g at g
          by_cases c1 : ¬ (0 ≤ t ∧ t ≤ 5) ∨ w < -1
          · rw [if_pos c1, if_pos c1]
          · rw [if_neg c1, if_neg c1]
            by_cases c2 : h 81 1 = 0 ∨ 7 < h 81 1
            · rw [if_pos c2, if_pos c2]
            · rw [if_neg c2, if_neg c2]
              by_cases c3 : h 122 t.toNat < 0
              · rw [if_pos c3, if_pos c3]
              · rw [if_neg c3, if_neg c3]
                by_cases c4 : h 122 t.toNat ≠ 0
                · rw [if_pos c4, if_pos c4]
                · rw [if_neg c4, if_neg c4, if_pos (by omega)]
      · rw [q2 100 j (by omega) (by omega)]; exact s1.2.2.gs_ j hj
    · rw [eg] at P ⊢
      obtain ⟨a, b⟩ := g1 P
      exact ⟨fD_BF z a, fD_goal z P b, fun o ho h0 => fD_only z a P b ho h0⟩
