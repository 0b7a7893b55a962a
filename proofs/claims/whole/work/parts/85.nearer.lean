/-! fewest: the class goes nearer -/
def FRow (h h' : HT) : Prop := ∀ b j : Nat, b ≠ 57 → b ≠ 58 → h' b j = h b j
theorem FRow.rf {h : HT} : FRow h h := fun _ _ _ _ => rfl
theorem FRow.tr {h g k : HT} (x : FRow h g) (y : FRow g k) : FRow h k := fun b j z1 z2 => (y b j z1 z2).trans (x b j z1 z2)
theorem zl_c {n : Nat} {r r' : Nat → Int} (e : ∀ p : Nat, p < n → r p = r' p) : zl n r = zl n r' := by
  refine List.ext_getElem? (fun j => ?_)
  rw [zl_at, zl_at]
  split
  · rw [e j (by assumption)]
  · rfl
theorem f_sw_cc {n p : Nat} {r r' : Nat → Int} (hp : p < n) (e : ∀ q : Nat, q < n → r q = r' q) : ∀ q : Nat, q < n → f_sw n r p q = f_sw n r' p q := fun q hq => by
  unfold f_sw
  have hA : (if p + 1 = n then 0 else p + 1) < n := by split <;> omega
  generalize (if p + 1 = n then 0 else p + 1) = A at hA
  by_cases a : q = p
  · rw [if_pos a, if_pos a]; exact e A hA
  · rw [if_neg a, if_neg a]
    by_cases b : q = A
    · rw [if_pos b, if_pos b]; exact e p hp
    · rw [if_neg b, if_neg b]; exact e q hq
theorem x_swap (d : Nat) (τ : TT) (h : HT) (hT : TK τ) (n : Nat) (hn : 3 ≤ n ∧ n ≤ 7) (p : Nat) (hp : p < n) : S_ mX4_swap (d + 1) 0 0 [.inr (some 55), .inl (p : Int), .inl (n : Int)] τ h (Zv τ fun h' => (∀ j : Nat, j < n → h' 57 j = f_sw n (h 57) p j) ∧ ∀ b j : Nat, b ≠ 57 → h' b j = h b j) := by
  have bh := x_bh_r (n := (n : Int)) (p := (p : Int)) ⟨by omega, by omega⟩
  refine S_go (k := 2) (ls := [some (.inr (some 55)), some (.inl (p : Int)), some (.inl (n : Int)), none, none]) (by decide) rfl (Nat.le_of_ble_eq_true rfl) rfl ?_
  refine G_iload_n (i := 1) dX4_swap_0 rfl rfl ?_
  refine G_iload_n (i := 2) dX4_swap_1 rfl rfl ?_
  refine G_cNq (as := [.inl (p : Int), .inl (n : Int)]) qX4_54 (x_behind d τ h (p : Int) (n : Int) (by omega) (by omega)) rfl rfl (Nat.le_of_ble_eq_true rfl) dX4_swap_2 ?_
  refine G_istore_n (i := 3) (ls' := [some (.inr (some 55)), some (.inl (p : Int)), some (.inl (n : Int)), some (.inl (x_bh (n : Int) (p : Int))), none]) dX4_swap_5 rfl (by decide) rfl ?_
  refine G_aload_n (i := 0) dX4_swap_6 rfl rfl ?_
  refine G_getR fX4_15 rfl dX4_swap_7 (o55 hT) (r55_1 hT) ?_
  refine G_iload_n (i := 1) dX4_swap_10 rfl rfl ?_
  refine G_iald (v := h 57 p) dX4_swap_11 (o57 hT) (by omega) rfl ?_
  refine G_istore (ls' := [some (.inr (some 55)), some (.inl (p : Int)), some (.inl (n : Int)), some (.inl (x_bh (n : Int) (p : Int))), some (.inl (h 57 p))]) dX4_swap_12 (by decide) rfl ?_
  refine G_aload_n (i := 0) dX4_swap_14 rfl rfl ?_
  refine G_getR fX4_15 rfl dX4_swap_15 (o55 hT) (r55_1 hT) ?_
  refine G_iload_n (i := 1) dX4_swap_18 rfl rfl ?_
  refine G_aload_n (i := 0) dX4_swap_19 rfl rfl ?_
  refine G_getR fX4_15 rfl dX4_swap_20 (o55 hT) (r55_1 hT) ?_
  refine G_iload_n (i := 3) dX4_swap_23 rfl rfl ?_
  refine G_iald (v := h 57 ((x_bh (n : Int) (p : Int)).toNat)) dX4_swap_24 (o57 hT) (by omega) rfl ?_
  refine G_iastk p dX4_swap_25 (o57 hT) (by omega) rfl ?_
  refine G_aload_n (i := 0) dX4_swap_26 rfl rfl ?_
  refine G_getR fX4_15 rfl dX4_swap_27 (o55 hT) (r55_1 hT) ?_
  refine G_iload_n (i := 3) dX4_swap_30 rfl rfl ?_
  refine G_iload dX4_swap_31 rfl ?_
  refine G_iastk ((x_bh (n : Int) (p : Int)).toNat) dX4_swap_33 (o57 hT) (by omega) rfl ?_
  refine G_vretZ rfl dX4_swap_34 ?_
  have eB : (x_bh (n : Int) (p : Int)).toNat = if p + 1 = n then 0 else p + 1 := by unfold x_bh; split <;> split <;> omega
  rw [eB]
  generalize hA : (if p + 1 = n then 0 else p + 1) = A
  have hAp : A ≠ p := by rw [← hA]; split <;> omega
  refine ⟨fun j hj => ?_, fun b j z => by rw [hs_na z, hs_na z]⟩
  unfold f_sw hs_
  rw [hA]
  by_cases a : j = p
  · rw [if_neg (by omega), if_pos (by omega), if_pos a]
  · by_cases b : j = A
    · rw [if_pos (by omega), if_neg a, if_pos b]
    · rw [if_neg (by omega), if_neg (by omega), if_neg a, if_neg b]

theorem x_nearer_L (d : Nat) (τ : TT) (h : HT) (hT : TK τ) (n : Nat) (hn : 3 ≤ n ∧ n ≤ 7) (G o : Nat → Int) (hg : isP n G) (ho : isP n o) (hd : 0 < fD n G o) (bf : BF n (fD n G)) : ∀ (n_ : Nat) (g : HT) (p : Nat), n - p < n_ → p ≤ n → (∀ j : Nat, j < n → g 57 j = G (o j).toNat) → (∀ q : Nat, q < p → fD n G (f_sw n o q) ≠ fD n G o - 1) → FRow h g → G_ mX4_nearer (d + 2) 0 0 2 [some (.inr (some 55)), some (.inl (fD n G o - 1)), some (.inl (n : Int)), some (.inl (p : Int))] [] τ g (Zi τ fun v h' => v = ((g_p n (fD n G) o : Nat) : Int) ∧ (∀ j : Nat, j < n → h' 57 j = G (f_sw n o (g_p n (fD n G) o) j).toNat) ∧ FRow h h') := by
  intro n_
  induction n_ with
  | zero => intro g p hm_; exact absurd hm_ (Nat.not_lt_zero _)
  | succ n_ ih =>
    intro g p hm_ hp rw_ hq fr
    have bo := bf.2.1 o ho
    refine G_iload_n (i := 3) dX4_nearer_2 rfl rfl ?_
    refine G_iload_n (i := 2) dX4_nearer_3 rfl rfl ?_
    refine G_icmp_ge (tgt := 36) dX4_nearer_4 (by decide) (by omega) (by omega) (fun c_1 => ?_) (fun c_1 => ?_)
    · refine G_iconst dX4_nearer_36 ?_
      refine G_iretZ rfl dX4_nearer_37 ?_
      have gp := g_p_ok bf ho hd
      exact absurd gp.2 (hq _ (by omega))
    · refine G_aload_n (i := 0) dX4_nearer_7 rfl rfl ?_
      refine G_iload_n (i := 3) dX4_nearer_8 rfl rfl ?_
      refine G_iload_n (i := 2) dX4_nearer_9 rfl rfl ?_
      refine G_cVv (as := [.inl (p : Int), .inl (n : Int)]) qX4_50 (x_swap d τ g hT n hn p (by omega)) rfl rfl (Nat.le_of_ble_eq_true rfl) (o55 hT) dX4_nearer_10 (fun g1 qs => ?_)
      obtain ⟨s1, s2⟩ := qs
      have rs : ∀ j : Nat, j < n → g1 57 j = G (f_sw n o p j).toNat := fun j hj => by rw [s1 j hj, f_sw_cc (by omega) rw_ j hj, ← fD_sw]
      refine G_aload_n (i := 0) dX4_nearer_13 rfl rfl ?_
      refine G_iload_n (i := 2) dX4_nearer_14 rfl rfl ?_
      refine G_cVi (as := [.inl (n : Int)]) qX4_42 (x_passesLeft d τ g1 hT n hn (fun j hj => by rw [rs j hj]; exact (fD_P hg (f_sw_P ho (show p < n by omega) (by omega))).1 j hj)) rfl rfl (Nat.le_of_ble_eq_true rfl) (o55 hT) dX4_nearer_15 (fun v1 g2 q1 => ?_)
      obtain ⟨v1e, f2⟩ := q1
      have ve : v1 = fD n G (f_sw n o p) := by rw [v1e, zl_c rs]; rfl
      have bf2 := bf.2.1 _ (f_sw_P ho (show p < n by omega) (by omega))
      refine G_iload_n (i := 1) dX4_nearer_18 rfl rfl ?_
      refine G_icmp_ne (tgt := 24) dX4_nearer_19 (by decide) (by omega) (by omega) (fun c_2 => ?_) (fun c_2 => ?_)
      · refine G_aload_n (i := 0) dX4_nearer_24 rfl rfl ?_
        refine G_iload_n (i := 3) dX4_nearer_25 rfl rfl ?_
        refine G_iload_n (i := 2) dX4_nearer_26 rfl rfl ?_
        refine G_cVv (as := [.inl (p : Int), .inl (n : Int)]) qX4_50 (x_swap d τ g2 hT n hn p (by omega)) rfl rfl (Nat.le_of_ble_eq_true rfl) (o55 hT) dX4_nearer_27 (fun g3 qu => ?_)
        obtain ⟨u1, u2⟩ := qu
        refine G_iinc (ls' := [some (.inr (some 55)), some (.inl (fD n G o - 1)), some (.inl (n : Int)), some (.inl ((p : Int) + 1))]) dX4_nearer_30 (by decide) rfl rfl ?_
        refine G_goto (tgt := 2) dX4_nearer_33 (by decide) ?_
        refine ih g3 (p + 1) (by omega) (by omega) (fun j hj => ?_) (fun q q1 => ?_) (fun b j z1 z2 => ?_)
        · rw [u1 j hj, f_sw_cc (show p < n by omega) (fun q hq => (f2 57 q (by decide)).trans (s1 q hq)) j hj, f_sw_sw (show p < n by omega) (by omega)]; exact rw_ j hj
        · by_cases z : q = p
          · subst z; omega
          · exact hq q (by omega)
        · rw [u2 b j z1, f2 b j z2, s2 b j z1]; exact fr b j z1 z2
      · refine G_iload_n (i := 3) dX4_nearer_22 rfl rfl ?_
        refine G_iretZ rfl dX4_nearer_23 ?_
        have ep : g_p n (fD n G) o = p := g_fst_is (show fD n G (f_sw n o p) = fD n G o - 1 by omega) n 0 (Nat.zero_le _) (by omega) (fun j _ j2 => hq j j2)
        refine ⟨by rw [ep], fun j hj => ?_, fun b j z1 z2 => ?_⟩
        · rw [ep, f2 57 j (by decide)]; exact rs j hj
        · rw [f2 b j z2, s2 b j z1]; exact fr b j z1 z2

theorem x_nearer (d : Nat) (τ : TT) (h : HT) (hT : TK τ) (n : Nat) (hn : 3 ≤ n ∧ n ≤ 7) (G o : Nat → Int) (hg : isP n G) (ho : isP n o) (hd : 0 < fD n G o) (hr : ∀ j : Nat, j < n → h 57 j = G (o j).toNat) : S_ mX4_nearer (d + 2) 0 0 [.inr (some 55), .inl (fD n G o - 1), .inl (n : Int)] τ h (Zi τ fun v h' => v = ((g_p n (fD n G) o : Nat) : Int) ∧ (∀ j : Nat, j < n → h' 57 j = G (f_sw n o (g_p n (fD n G) o) j).toNat) ∧ FRow h h') := by
  refine S_go (k := 1) (ls := [some (.inr (some 55)), some (.inl (fD n G o - 1)), some (.inl (n : Int)), none]) (by decide) rfl (Nat.le_of_ble_eq_true rfl) rfl ?_
  refine G_iconst dX4_nearer_0 ?_
  refine G_istore_n (i := 3) (ls' := [some (.inr (some 55)), some (.inl (fD n G o - 1)), some (.inl (n : Int)), some (.inl 0)]) dX4_nearer_1 rfl (by decide) rfl ?_
  exact x_nearer_L d τ h hT n hn G o hg ho hd (fD_BF hn hg) _ h 0 (Nat.lt_succ_self _) (Nat.zero_le _) hr (fun q q1 => absurd q1 (Nat.not_lt_zero _)) FRow.rf

theorem x_nearer' (d : Nat) (τ : TT) (h : HT) (hT : TK τ) (n : Nat) (hn : 3 ≤ n ∧ n ≤ 7) (G o : Nat → Int) (hg : isP n G) (ho : isP n o) (hd : 0 < fD n G o) (hr : ∀ j : Nat, j < n → h 57 j = G (o j).toNat) (lf : Int) (eL : lf = fD n G o - 1) : S_ mX4_nearer (d + 2) 0 0 [.inr (some 55), .inl lf, .inl (n : Int)] τ h (Zi τ fun v h' => v = ((g_p n (fD n G) o : Nat) : Int) ∧ (∀ j : Nat, j < n → h' 57 j = G (f_sw n o (g_p n (fD n G) o) j).toNat) ∧ FRow h h') := by
  subst eL
  exact x_nearer d τ h hT n hn G o hg ho hd hr
