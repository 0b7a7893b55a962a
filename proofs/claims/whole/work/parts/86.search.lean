/-! fewest: the class searches -/
theorem x_search_L (d : Nat) (τ : TT) (h : HT) (hT : TK τ) (n : Nat) (hn : 3 ≤ n ∧ n ≤ 7) (G o : Nat → Int) (hg : isP n G) (ho : isP n o) (bf : BF n (fD n G)) : ∀ (n_ : Nat) (g : HT) (k : Nat), (fD n G o).toNat - k < n_ → (k : Int) ≤ fD n G o → g 55 4 = (k : Int) → (∀ j : Nat, j < n → g 57 j = G (g_at n (fD n G) o k j).toNat) → (∀ j : Nat, j < k → g 59 j = ((g_p n (fD n G) (g_at n (fD n G) o j) : Nat) : Int)) → (∀ b j : Nat, b ≠ 57 → b ≠ 58 → b ≠ 59 → ¬ (b = 55 ∧ j = 4) → g b j = h b j) → G_ mX4_search (d + 3) 0 0 11 [some (.inr (some 55)), some (.inl (n : Int)), some (.inl (fD n G o - (k : Int)))] [] τ g (Zv τ fun h' => h' 55 4 = fD n G o ∧ (∀ j : Nat, (j : Int) < fD n G o → h' 59 j = ((g_p n (fD n G) (g_at n (fD n G) o j) : Nat) : Int)) ∧ ∀ b j : Nat, b ≠ 57 → b ≠ 58 → b ≠ 59 → ¬ (b = 55 ∧ j = 4) → h' b j = h b j) := by
  intro n_
  induction n_ with
  | zero => intro g k hm_; exact absurd hm_ (Nat.not_lt_zero _)
  | succ n_ ih =>
    intro g k hm_ hk ek rw_ pt fr
    have bo := bf.2.1 o ho
    have gk := g_at_ok (by omega) bf ho k hk
    refine G_iload_n (i := 2) dX4_search_11 rfl rfl ?_
    refine G_if_le (tgt := 55) dX4_search_12 (by decide) (by omega) (fun c_1 => ?_) (fun c_1 => ?_)
    · refine G_vretZ rfl dX4_search_55 ?_
      have ed : fD n G o = (k : Int) := by omega
      exact ⟨by rw [ed]; exact ek, fun j hj => pt j (by omega), fr⟩
    · refine G_aload_n (i := 0) dX4_search_15 rfl rfl ?_
      refine G_getI (v := (k : Int)) fX4_24 rfl dX4_search_16 (o55 hT) (ek) ?_
      refine G_bipush dX4_search_19 (by decide) ?_
      refine G_icmp_ge (tgt := 55) dX4_search_21 (by decide) (by omega) (by decide) (fun c_2 => ?_) (fun c_2 => ?_)
      · refine G_vretZ rfl dX4_search_55 ?_
        have ed : fD n G o = (k : Int) := by omega
        exact ⟨by rw [ed]; exact ek, fun j hj => pt j (by omega), fr⟩
      · refine G_iinc (ls' := [some (.inr (some 55)), some (.inl (n : Int)), some (.inl ((fD n G o - (k : Int)) + (-1)))]) dX4_search_24 (by decide) rfl rfl ?_
        refine G_aload_n (i := 0) dX4_search_27 rfl rfl ?_
        refine G_getR fX4_21 rfl dX4_search_28 (o55 hT) (r55_3 hT) ?_
        refine G_aload_n (i := 0) dX4_search_31 rfl rfl ?_
        refine G_getI (v := (k : Int)) fX4_24 rfl dX4_search_32 (o55 hT) (ek) ?_
        refine G_aload_n (i := 0) dX4_search_35 rfl rfl ?_
        refine G_iload_n (i := 2) dX4_search_36 rfl rfl ?_
        refine G_iload_n (i := 1) dX4_search_37 rfl rfl ?_
        refine G_cVi (as := [.inl ((fD n G o - (k : Int)) + (-1)), .inl (n : Int)]) qX4_46 (x_nearer' d τ g hT n hn G (g_at n (fD n G) o k) hg gk.1 (by omega) rw_ ((fD n G o - (k : Int)) + (-1)) (by omega)) rfl rfl (Nat.le_of_ble_eq_true rfl) (o55 hT) dX4_search_38 (fun v1 g1 q1 => ?_)
        obtain ⟨q1, q2, q3⟩ := q1
        refine G_iastk (((k : Int)).toNat) dX4_search_41 (o59 hT) (by omega) rfl ?_
        refine G_aload_n (i := 0) dX4_search_42 rfl rfl ?_
        refine G_dup dX4_search_43 ?_
        refine G_getI (v := (k : Int)) fX4_24 rfl dX4_search_44 (o55 hT) ((hs_na (by decide)).trans (((q3 55 4 (by decide) (by decide)).trans ek))) ?_
        refine G_iconst dX4_search_47 ?_
        refine G_iadd dX4_search_48 ?_
        refine G_putI fX4_24 dX4_search_49 (o55 hT) ?_
        refine G_goto (tgt := 11) dX4_search_52 (by decide) ?_
        rw [show (fD n G o - (k : Int)) + (-1) = fD n G o - ((k + 1 : Nat) : Int) from by omega]
        refine ih _ (k + 1) (by omega) (by omega) (by rw [hs_eq]; omega) (fun j hj => ?_) (fun j hj => ?_) (fun b j z1 z2 z3 z4 => ?_)
        · rw [hs_na (by decide), hs_na (by decide)]; exact q2 j hj
        · rw [hs_na (by decide)]
          by_cases z : j = k
          · subst z; rw [show ∀ X v, hs_ X 59 ((j : Int)).toNat v 59 j = v from fun X v => hs_eq]; exact q1
          · rw [hs_ni (by omega), q3 59 j (by decide) (by decide)]; exact pt j (by omega)
        · rw [show ∀ X v, hs_ X 55 4 v b j = X b j from fun X v => if_neg z4, hs_na z3, q3 b j z1 z2]; exact fr b j z1 z2 z3 z4

theorem x_search (d : Nat) (τ : TT) (h : HT) (hT : TK τ) (n : Nat) (hn : 3 ≤ n ∧ n ≤ 7) (G o : Nat → Int) (hg : isP n G) (ho : isP n o) (hr : ∀ j : Nat, j < n → h 57 j = G (o j).toNat) : S_ mX4_search (d + 3) 0 0 [.inr (some 55), .inl (n : Int)] τ h (Zv τ fun h' => h' 55 4 = fD n G o ∧ (∀ j : Nat, (j : Int) < fD n G o → h' 59 j = ((g_p n (fD n G) (g_at n (fD n G) o j) : Nat) : Int)) ∧ ∀ b j : Nat, b ≠ 57 → b ≠ 58 → b ≠ 59 → ¬ (b = 55 ∧ j = 4) → h' b j = h b j) := by
  refine S_go (k := 1) (ls := [some (.inr (some 55)), some (.inl (n : Int)), none]) (by decide) rfl (Nat.le_of_ble_eq_true rfl) rfl ?_
  refine G_aload_n (i := 0) dX4_search_0 rfl rfl ?_
  refine G_iconst dX4_search_1 ?_
  refine G_putI fX4_24 dX4_search_2 (o55 hT) ?_
  refine G_aload_n (i := 0) dX4_search_5 rfl rfl ?_
  refine G_iload_n (i := 1) dX4_search_6 rfl rfl ?_
  refine G_cVi (as := [.inl (n : Int)]) qX4_42 (x_passesLeft (d + 1) τ (hs_ h 55 4 0) hT n hn (fun j hj => by rw [hs_na (by decide), hr j hj]; exact (fD_P hg ho).1 j hj)) rfl rfl (Nat.le_of_ble_eq_true rfl) (o55 hT) dX4_search_7 (fun v1 g q1 => ?_)
  obtain ⟨v1e, f2⟩ := q1
  have ve : v1 = fD n G o := by rw [v1e, zl_c (fun p hp => (hs_na (by decide)).trans (hr p hp))]; rfl
  rw [ve]
  refine G_istore_n (i := 2) (ls' := [some (.inr (some 55)), some (.inl (n : Int)), some (.inl (fD n G o))]) dX4_search_10 rfl (by decide) rfl ?_
  have z0 := x_search_L d τ h hT n hn G o hg ho (fD_BF hn hg) _ g 0 (Nat.lt_succ_self _) (by have := (fD_BF hn hg).2.1 o ho; omega) (by rw [f2 55 4 (by decide)]; exact hs_eq) (fun j hj => by rw [f2 57 j (by decide), hs_na (by decide)]; exact hr j hj) (fun j hj => absurd hj (Nat.not_lt_zero _)) (fun b j z1 z2 z3 z4 => by rw [f2 b j z2]; exact if_neg z4)
  rw [show fD n G o - ((0 : Nat) : Int) = fD n G o from by omega] at z0
  exact z0

