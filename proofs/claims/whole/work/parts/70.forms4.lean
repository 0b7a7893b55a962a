/-! forms: the class, in order -/
theorem x_fr_i {E : Nat → Int} {n q : Int} (hq : 0 ≤ q) : x_fr E n q.toNat ↔ (E q.toNat < 300 ∧ E q.toNat < E (x_bh n q).toNat ∧ E q.toNat < E (x_ah n q).toNat) := by
  unfold x_fr; rw [show ((q.toNat : Nat) : Int) = q by omega]
theorem w_rot_lt {F : Nat → Int} {i b j : Nat} (h : j < i) : w_rot F i b j = F j := by
  unfold w_rot; rw [if_neg (by omega), if_neg (by omega)]
theorem WIa_0 {n : Int} {g : HT} {a m : Nat} {F : Nat → Int} {v : Int} (w : WIa n g a m F) : WIa n (hs_ g a 0 v) a m F := by
  have e : ∀ k : Nat, 0 < k → hs_ g a 0 v (a + k) = g (a + k) := fun k hk => funext fun j => hs_na (by omega)
  unfold WIa
  rw [e 2 (by decide), e 3 (by decide), e 4 (by decide), show hs_ g a 0 v a 4 = g a 4 from hs_ni (by decide)]
  exact w
theorem x_putIn_L (d : Nat) (τ : TT) (h : HT) (hT : TK τ) (a : Nat) (hF : FM τ a) (n : Int) (hn : 3 ≤ n ∧ n ≤ 9) (hl : 0 ≤ h a 4 ∧ h a 4 ≤ 300) (m : Nat) (F : Nat → Int) (hm : (m : Int) ≤ h a 4) : ∀ (n_ : Nat) (g : HT) (i : Nat), (h a 4).toNat - i < n_ → (i : Int) ≤ h a 4 → g a 1 = (i : Int) → (∀ b j : Nat, b ≠ a + 1 → b ≠ a + 4 → ¬ (b = a ∧ j = 1) → g b j = h b j) → (∀ j : Nat, j < i → g (a + 1) j = w_srt n m F i j) → OI n (h a 4).toNat (h (a + 2)) (h (a + 3)) (g (a + 4)) i m (w_srt n m F i) → G_ mX3_putInOrder (d + 2) 0 0 7 [some (.inr (some a)), some (.inl n), some (.inl (i : Int)), none, none] [] τ g (Zv τ fun h' => h' a 1 = (m : Int) ∧ (∀ j : Nat, j < m → h' (a + 1) j = w_srt n m F m j) ∧ (∀ b j : Nat, b ≠ a + 1 → b ≠ a + 4 → ¬ (b = a ∧ j = 1) → h' b j = h b j)) := by
  intro n_
  induction n_ with
  | zero => intro g i hm_; exact absurd hm_ (Nat.not_lt_zero _)
  | succ n_ ih =>
    intro g i hm_ hi e1 fr ps oi
    refine G_iload_n (i := 2) dX3_putInOrder_7 rfl rfl ?_
    refine G_aload_n (i := 0) dX3_putInOrder_8 rfl rfl ?_
    refine G_getI (v := h a 4) fX3_25 rfl dX3_putInOrder_9 hF.1 ((fr _ _ (by omega) (by omega) (by omega))) ?_
    refine G_icmp_ge (tgt := 80) dX3_putInOrder_12 (by decide) (by omega) (by omega) (fun c_1 => ?_) (fun c_1 => ?_)
    · refine G_vretZ rfl dX3_putInOrder_80 ?_
      have ec : i = m := by have := oi.1.1; omega
      subst ec
      exact ⟨e1, ps, fr⟩
    · refine G_aload_n (i := 0) dX3_putInOrder_15 rfl rfl ?_
      refine G_iload_n (i := 1) dX3_putInOrder_16 rfl rfl ?_
      refine G_cVi (as := [.inl n]) qX3_69 (x_leastFree d τ g hT a hF n hn (fun p hp => ⟨(oi.2.2.1 p hp).1, (oi.2.2.1 p hp).2.1⟩)) rfl rfl (Nat.le_of_ble_eq_true rfl) hF.1 dX3_putInOrder_17 (fun v1 g1 q1 => ?_)
      obtain ⟨⟨P, rfl, P1, P2, P3⟩, eg⟩ := q1
      rw [eg]
      clear eg
      refine G_istore_n (i := 3) (ls' := [some (.inr (some a)), some (.inl n), some (.inl (i : Int)), some (.inl (P : Int)), none]) dX3_putInOrder_20 rfl (by decide) rfl ?_
      refine G_iload_n (i := 3) dX3_putInOrder_21 rfl rfl ?_
      refine G_iload_n (i := 1) dX3_putInOrder_22 rfl rfl ?_
      refine G_icmp_lt (tgt := 27) dX3_putInOrder_23 (by decide) (by omega) (by omega) (fun c_2 => ?_) (fun c_2 => ?_)
      · refine G_aload_n (i := 0) dX3_putInOrder_27 rfl rfl ?_
        refine G_getR fX3_31 rfl dX3_putInOrder_28 hF.1 hF.2.2.2.2.2.2.2.2 ?_
        refine G_iload_n (i := 3) dX3_putInOrder_31 rfl rfl ?_
        refine G_iald (v := g (a + 4) P) dX3_putInOrder_32 hF.2.2.2.2.1 (by omega) rfl ?_
        have fP := P2 (by omega)
        have eP := oi.2.2.1 P (by omega)
        refine G_istore (ls' := [some (.inr (some a)), some (.inl n), some (.inl (i : Int)), some (.inl (P : Int)), some (.inl (g (a + 4) P))]) dX3_putInOrder_33 (by decide) rfl ?_
        refine G_aload_n (i := 0) dX3_putInOrder_35 rfl rfl ?_
        refine G_getR fX3_18 rfl dX3_putInOrder_36 hF.1 hF.2.2.2.2.2.1 ?_
        refine G_aload_n (i := 0) dX3_putInOrder_39 rfl rfl ?_
        refine G_getI (v := (i : Int)) fX3_15 rfl dX3_putInOrder_40 hF.1 (e1) ?_
        refine G_aload_n (i := 0) dX3_putInOrder_43 rfl rfl ?_
        refine G_getR fX3_22 rfl dX3_putInOrder_44 hF.1 hF.2.2.2.2.2.2.1 ?_
        refine G_iload dX3_putInOrder_47 rfl ?_
        refine G_iald (v := h (a + 2) ((g (a + 4) P).toNat)) dX3_putInOrder_49 hF.2.2.1 (by omega) ((fr _ _ (by omega) (by omega) (by omega))) ?_
        refine G_iastk (((i : Int)).toNat) dX3_putInOrder_50 hF.2.1 (by omega) rfl ?_
        refine G_aload_n (i := 0) dX3_putInOrder_51 rfl rfl ?_
        refine G_dup dX3_putInOrder_52 ?_
        refine G_getI (v := (i : Int)) fX3_15 rfl dX3_putInOrder_53 hF.1 ((hs_na (by omega)).trans (e1)) ?_
        refine G_iconst dX3_putInOrder_56 ?_
        refine G_iadd dX3_putInOrder_57 ?_
        refine G_putI fX3_15 dX3_putInOrder_58 hF.1 ?_
        refine G_aload_n (i := 0) dX3_putInOrder_61 rfl rfl ?_
        refine G_getR fX3_31 rfl dX3_putInOrder_62 hF.1 hF.2.2.2.2.2.2.2.2 ?_
        refine G_iload_n (i := 3) dX3_putInOrder_65 rfl rfl ?_
        refine G_aload_n (i := 0) dX3_putInOrder_66 rfl rfl ?_
        refine G_getR fX3_28 rfl dX3_putInOrder_67 hF.1 hF.2.2.2.2.2.2.2.1 ?_
        refine G_iload dX3_putInOrder_70 rfl ?_
        refine G_iald (v := h (a + 3) ((g (a + 4) P).toNat)) dX3_putInOrder_72 hF.2.2.2.1 (by omega) ((hs_na (by omega)).trans ((hs_na (by omega)).trans ((fr _ _ (by omega) (by omega) (by omega))))) ?_
        refine G_iastk P dX3_putInOrder_73 hF.2.2.2.2.1 (by omega) rfl ?_
        refine G_iinc (ls' := [some (.inr (some a)), some (.inl n), some (.inl ((i : Int) + 1)), some (.inl (P : Int)), some (.inl (g (a + 4) P))]) dX3_putInOrder_74 (by decide) rfl rfl ?_
        refine G_goto (tgt := 7) dX3_putInOrder_77 (by decide) ?_
        refine G_lsub (ls' := [some (.inr (some a)), some (.inl n), some (.inl ((i : Int) + 1)), none, none]) (LS_same (LS_same (LS_same (LS_none (LS_none LS_nil))))) ?_
        obtain ⟨b1, b2⟩ := OI.best oi hn (by omega) (p := (P : Int)) ⟨by omega, by omega⟩ (by rw [Int.toNat_natCast]; exact P2 (by omega)) (fun q q1 q2 z => P3 q.toNat (by omega) ((x_fr_i q1).mpr z))
        obtain ⟨o1, o2⟩ := OI.step (E' := (hs_ (hs_ (hs_ g (a + 1) (((i : Int)).toNat) (h (a + 2) ((g (a + 4) P).toNat))) a 1 ((i : Int) + 1)) (a + 4) P (h (a + 3) ((g (a + 4) P).toNat))) (a + 4)) oi hn (by omega) (p := (P : Int)) ⟨by omega, by omega⟩ (by rw [Int.toNat_natCast]; omega) (fun q ne => (by rw [Int.toNat_natCast] at ne; unfold hs_; (repeat (first | rw [if_pos (by omega)] | rw [if_neg (by omega)])); try omega)) (by simp only [Int.toNat_natCast]; unfold hs_; (repeat (first | rw [if_pos (by omega)] | rw [if_neg (by omega)])); try omega)
        simp only [Int.toNat_natCast] at b2 o1 o2
        rw [← b2] at o1 o2
        have es : w_srt n m F (i + 1) = w_rot (w_srt n m F i) i (w_bst n (w_srt n m F i) i (m - (i + 1))) := rfl
        rw [← es] at o1 o2
        refine ih _ (i + 1) (by omega) (by omega) (by unfold hs_; (repeat (first | rw [if_pos (by omega)] | rw [if_neg (by omega)])); try omega) (fun b j z1 z2 z3 => ?_) (fun j hj => ?_) o2
        · rw [show ∀ X v, hs_ X (a + 4) P v b j = X b j from fun X v => hs_na z2, show ∀ X v, hs_ X a 1 v b j = X b j from fun X v => if_neg z3, show ∀ X k v, hs_ X (a + 1) k v b j = X b j from fun X k v => hs_na z1]; exact fr b j z1 z2 z3
        · by_cases z : j = i
          · subst z; rw [o1]; unfold hs_; (repeat (first | rw [if_pos (by omega)] | rw [if_neg (by omega)])); try omega
          · rw [es, w_rot_lt (by omega), ← ps j (by omega)]; unfold hs_; (repeat (first | rw [if_pos (by omega)] | rw [if_neg (by omega)])); try omega
      · refine G_vretZ rfl dX3_putInOrder_26 ?_
        have ec : i = m := OI.none oi hn (by omega) (fun q q1 q2 z => P3 q.toNat (by omega) ((x_fr_i q1).mpr z))
        subst ec
        exact ⟨e1, ps, fr⟩

theorem x_putInOrder (d : Nat) (τ : TT) (h : HT) (hT : TK τ) (a : Nat) (hF : FM τ a) (n : Int) (hn : 3 ≤ n ∧ n ≤ 9) (hl : 0 ≤ h a 4 ∧ h a 4 ≤ 300) (m : Nat) (F : Nat → Int) (hm : (m : Int) ≤ h a 4) (oi : OI n (h a 4).toNat (h (a + 2)) (h (a + 3)) (h (a + 4)) 0 m F) : S_ mX3_putInOrder (d + 2) 0 0 [.inr (some a), .inl n] τ h (Zv τ fun h' => h' a 1 = (m : Int) ∧ (∀ j : Nat, j < m → h' (a + 1) j = w_srt n m F m j) ∧ (∀ b j : Nat, b ≠ a + 1 → b ≠ a + 4 → ¬ (b = a ∧ j = 1) → h' b j = h b j)) := by
  refine S_go (k := 3) (ls := [some (.inr (some a)), some (.inl n), none, none, none]) (by decide) rfl (Nat.le_of_ble_eq_true rfl) rfl ?_
  refine G_aload_n (i := 0) dX3_putInOrder_0 rfl rfl ?_
  refine G_iconst dX3_putInOrder_1 ?_
  refine G_putI fX3_15 dX3_putInOrder_2 hF.1 ?_
  refine G_iconst dX3_putInOrder_5 ?_
  refine G_istore_n (i := 2) (ls' := [some (.inr (some a)), some (.inl n), some (.inl 0), none, none]) dX3_putInOrder_6 rfl (by decide) rfl ?_
  refine x_putIn_L d τ h hT a hF n hn hl m F hm _ _ 0 (Nat.lt_succ_self _) (by omega) hs_eq (fun b j z1 z2 z3 => if_neg z3) (fun j hj => absurd hj (Nat.not_lt_zero _)) ?_
  rw [show hs_ h a 1 0 (a + 4) = h (a + 4) from funext fun j => hs_na (by omega)]
  exact oi

