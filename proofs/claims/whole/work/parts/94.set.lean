/-! operations: set, spent -/
theorem x_numberAt2 (d : Nat) (τ : TT) (h : HT) (hT : TK τ) (p : Int) (hp : 0 ≤ p ∧ p < 7) (hb : 0 ≤ h 66 p.toNat ∧ h 66 p.toNat < 7) : S_ mX8_numberAt d 0 0 [.inr (some 60), .inl p] τ h (Zi τ fun v h' => v = h 61 (h 66 p.toNat).toNat ∧ h' = h) := by
  refine S_go (k := 0) (ls := [some (.inr (some 60)), some (.inl p)]) (by decide) rfl (Nat.le_of_ble_eq_true rfl) rfl ?_
  refine G_aload_n (i := 0) dX8_numberAt_0 rfl rfl ?_
  refine G_getR fX8_15 rfl dX8_numberAt_1 (o60 hT) (r60_1 hT) ?_
  refine G_aload_n (i := 0) dX8_numberAt_4 rfl rfl ?_
  refine G_getR fX8_28 rfl dX8_numberAt_5 (o60 hT) (r60_5 hT) ?_
  refine G_iload_n (i := 1) dX8_numberAt_8 rfl rfl ?_
  refine G_iald (v := h 66 ((p).toNat)) dX8_numberAt_9 (o66 hT) (by omega) rfl ?_
  refine G_iald (v := h 61 ((h 66 ((p).toNat)).toNat)) dX8_numberAt_10 (o61 hT) (by omega) rfl ?_
  refine G_iretZ rfl dX8_numberAt_11 ?_
  exact ⟨rfl, rfl⟩

def SEAT (h g : HT) (n pp : Nat) (s : Int) : Prop := g 60 0 = (n : Int) ∧ (∀ i : Nat, i < n → g 61 i = f_mb (f_B s) pp i ∧ g 63 i = h 84 (f_mb (f_B s) pp i).toNat) ∧ MINP n (f_SS h n pp s) (f_P n n) (g 66) ∧ g 60 7 = f_SS h n pp s (g 66)
def GST (h g : HT) (s : Int) (k : Nat) : Prop := g 60 0 = ((f_cn (f_B s) k : Nat) : Int) ∧ (∀ i : Nat, i < f_cn (f_B s) k → g 61 i = f_mb (f_B s) k i ∧ g 62 i = h 83 (f_mb (f_B s) k i).toNat ∧ g 63 i = h 84 (f_mb (f_B s) k i).toNat) ∧ (∀ j : Nat, j < k → f_B s j ≠ 0 → h 82 j ≠ 4) ∧ ∀ c j : Nat, ¬ (60 ≤ c ∧ c ≤ 67) → g c j = h c j
theorem GST_0 {h g : HT} {s : Int} {k : Nat} (x : GST h g s k) (e : f_B s k = 0) : GST h g s (k + 1) := by
  have c : f_cn (f_B s) (k + 1) = f_cn (f_B s) k := by show f_cn (f_B s) k + (if f_B s k = 0 then 0 else 1) = _; rw [if_pos e, Nat.add_zero]
  have f : ∀ i : Nat, f_mb (f_B s) (k + 1) i = f_mb (f_B s) k i := fun i => if_neg (fun q => q.1 e)
  refine ⟨by rw [c]; exact x.1, fun i hi => ?_, fun j hj b => ?_, x.2.2.2⟩
  · rw [c] at hi; rw [f]; exact x.2.1 i hi
  · by_cases z : j = k
    · rw [z] at b; exact absurd e b
    · exact x.2.2.1 j (by omega) b
theorem GST_1 {h g : HT} {s : Int} {k : Nat} {a b c : Int} (x : GST h g s k) (e : f_B s k ≠ 0) (e4 : h 82 k ≠ 4) (ea : a = (k : Int)) (eb : b = h 83 k) (ec : c = h 84 k) : GST h (hs_ (hs_ (hs_ (hs_ g 61 (f_cn (f_B s) k) a) 62 (f_cn (f_B s) k) b) 63 (f_cn (f_B s) k) c) 60 0 (((f_cn (f_B s) k : Nat) : Int) + 1)) s (k + 1) := by
  have cc : f_cn (f_B s) (k + 1) = f_cn (f_B s) k + 1 := by show f_cn (f_B s) k + (if f_B s k = 0 then 0 else 1) = _; rw [if_neg e]
  refine ⟨by rw [cc, hs_eq]; omega, fun i hi => ?_, fun j hj q => ?_, fun c j q => ?_⟩
  · rw [cc] at hi
    by_cases z : i = f_cn (f_B s) k
    · have f : f_mb (f_B s) (k + 1) i = (k : Int) := if_pos ⟨e, z⟩
      rw [f, z]
      refine ⟨?_, ?_, ?_⟩
      · rw [hs_na (by decide), hs_na (by decide), hs_na (by decide), hs_eq]; exact ea
      · rw [hs_na (by decide), hs_na (by decide), hs_eq]; exact eb
      · rw [hs_na (by decide), hs_eq]; exact ec
    · have f : f_mb (f_B s) (k + 1) i = f_mb (f_B s) k i := if_neg (fun q => z q.2)
      have y := x.2.1 i (by omega)
      rw [f]
      refine ⟨?_, ?_, ?_⟩
      · rw [hs_na (by decide), hs_na (by decide), hs_na (by decide), hs_ni z]; exact y.1
      · rw [hs_na (by decide), hs_na (by decide), hs_ni z, hs_na (by decide)]; exact y.2.1
      · rw [hs_na (by decide), hs_ni z, hs_na (by decide), hs_na (by decide)]; exact y.2.2
  · by_cases z : j = k
    · rw [z]; exact e4
    · exact x.2.2.1 j (by omega) q
  · rw [hs_na (by omega), hs_na (by omega), hs_na (by omega), hs_na (by omega)]; exact x.2.2.2 c j q
theorem x_seatPeople_L (d : Nat) (τ : TT) (h : HT) (hT : TK τ) (x : MI h) (y : XR τ h) (s : Int) (r_s : -2147483648 ≤ s ∧ s ≤ 2147483647) (n pp : Nat) (hn : h 81 1 = n) (hpp : h 81 0 = pp) (n7 : 3 ≤ n ∧ n ≤ 7) (p15 : pp ≤ 15) (hs : 0 ≤ s ∧ b_shr s (pp : Int) = 0) (hcn : f_cn (f_B s) pp = n) : ∀ (n_ : Nat) (g : HT) (k : Nat), pp - k < n_ → k ≤ pp → GST h g s k → G_ mX11_seatPeople (d + 10) 0 0 50 [some (.inr (some 0)), some (.inl s), some (.inl (n : Int)), some (.inl (k : Int)), none] [] τ g (Zi τ fun v h' => ((h 81 1 = 0 ∨ 7 < h 81 1) → v = -3) ∧ (¬ (h 81 1 = 0 ∨ 7 < h 81 1) → (¬ f_sok h n pp s → v = -2) ∧ (f_sok h n pp s → v = 0 ∧ SEAT h h' n pp s)) ∧ ∀ c j : Nat, ¬ (60 ≤ c ∧ c ≤ 67) → h' c j = h c j) := by
  intro n_
  induction n_ with
  | zero => intro g k hm_; exact absurd hm_ (Nat.not_lt_zero _)
  | succ n_ ih =>
    intro g k hm_ hk gs
    have pc := y.pc_
    have g01 : g 0 1 = (pp : Int) := ((gs.2.2.2 0 1 (by decide)).trans pc).trans hpp
    have cm := f_cn_m (f_B s) k (pp - k)
    rw [show k + (pp - k) = pp by omega, hcn] at cm
    have cm1 : k < pp → f_B s k ≠ 0 → f_cn (f_B s) k + 1 ≤ n := fun q1 q2 => by
      have cm2 := f_cn_m (f_B s) (k + 1) (pp - (k + 1))
      rw [show k + 1 + (pp - (k + 1)) = pp by omega, hcn, show f_cn (f_B s) (k + 1) = f_cn (f_B s) k + (if f_B s k = 0 then 0 else 1) from rfl, if_neg q2] at cm2
      exact cm2
    refine G_iload_n (i := 3) dX11_seatPeople_50 rfl rfl ?_
    refine G_aload_n (i := 0) dX11_seatPeople_51 rfl rfl ?_
    refine G_getI (v := (pp : Int)) fX11_15 rfl dX11_seatPeople_52 (o0 hT) (g01) ?_
    refine G_icmp_ge (tgt := 105) dX11_seatPeople_55 (by decide) (by omega) (by omega) (fun c_1 => ?_) (fun c_1 => ?_)
    · refine G_aload_n (i := 0) dX11_seatPeople_105 rfl rfl ?_
      obtain rfl : pp = k := by omega
      refine G_getR fX11_103 rfl dX11_seatPeople_106 (o0 hT) (r0_17 hT) ?_
      refine G_cVv (as := []) qX11_381 (x_seatAll d τ g hT n (by omega) (fun i => h 83 (f_mb (f_B s) pp i).toNat) (fun i hi => x.re_ _ (by have := f_mb_r (B := f_B s) pp i (by omega); omega)) (by rw [gs.1, hcn]) (fun i hi => (gs.2.1 i (by omega)).2.1)) rfl rfl (Nat.le_of_ble_eq_true rfl) (o60 hT) dX11_seatPeople_109 (fun g' z => ?_)
      obtain ⟨z1, z2, z3⟩ := z
      refine G_iconst dX11_seatPeople_112 ?_
      refine G_iretZ rfl dX11_seatPeople_113 ?_
      refine ⟨fun q => absurd q (by omega), fun _ => ⟨fun q => absurd (show f_sok h n pp s from ⟨hs.1, hs.2, gs.2.2.1, hcn⟩) q, fun _ => ⟨rfl, ?_, ?_, z1, z2⟩⟩, fun c j q => ?_⟩
      · rw [z3 60 0 (by decide) (by decide) (by decide) (by decide), gs.1, hcn]
      · intro i hi; rw [z3 61 i (by decide) (by decide) (by decide) (by omega), z3 63 i (by decide) (by decide) (by decide) (by omega)]; exact ⟨(gs.2.1 i (by omega)).1, (gs.2.1 i (by omega)).2.2⟩
      · rw [z3 c j (by omega) (by omega) (by omega) (by omega)]; exact gs.2.2.2 c j q
    · refine G_aload_n (i := 0) dX11_seatPeople_58 rfl rfl ?_
      refine G_iload_n (i := 3) dX11_seatPeople_59 rfl rfl ?_
      refine G_cVr (as := [.inl (k : Int)]) qX11_133 (x_personAt (d + 9) τ g hT (k : Int) (by omega) (by rw [g01]; omega)) rfl rfl (Nat.le_of_ble_eq_true rfl) (o0 hT) dX11_seatPeople_60 (fun x' h' e' => ?_)
      obtain ⟨rfl, eh'⟩ := e'
      rw [eh']
      clear eh'
      obtain ⟨o, p1, p2, p3, p4, p5, p6, p7⟩ := y.pe_ k (by omega)
      rw [if_pos (by rw [g01]; omega), Int.toNat_natCast, p1]
      refine G_astore (ls' := [some (.inr (some 0)), some (.inl s), some (.inl (n : Int)), some (.inl (k : Int)), some (.inr (some o))]) dX11_seatPeople_63 (by decide) rfl ?_
      refine G_iload_n (i := 1) dX11_seatPeople_65 rfl rfl ?_
      refine G_iload_n (i := 3) dX11_seatPeople_66 rfl rfl ?_
      refine G_iushr dX11_seatPeople_67 ?_
      refine G_iconst dX11_seatPeople_68 ?_
      refine G_iand dX11_seatPeople_69 ?_
      rw [bits_B s (by omega) k (by omega)]
      have rb : -2147483648 ≤ f_B s k ∧ f_B s k ≤ 2147483647 := b_and_r _ _
      have kr := x.ki_ k (by omega)
      refine G_if_eq (tgt := 99) dX11_seatPeople_70 (by decide) (by omega) (fun c_2 => ?_) (fun c_2 => ?_)
      · refine G_iinc (ls' := [some (.inr (some 0)), some (.inl s), some (.inl (n : Int)), some (.inl ((k : Int) + 1)), some (.inr (some o))]) dX11_seatPeople_99 (by decide) rfl rfl ?_
        refine G_goto (tgt := 50) dX11_seatPeople_102 (by decide) ?_
        refine G_lsub (ls' := [some (.inr (some 0)), some (.inl s), some (.inl (n : Int)), some (.inl ((k : Int) + 1)), none]) (LS_same (LS_same (LS_same (LS_same (LS_none LS_nil))))) ?_
        exact ih g (k + 1) (by omega) (by omega) (GST_0 gs (by omega))
      · refine G_aload dX11_seatPeople_73 rfl ?_
        refine G_ifnullS dX11_seatPeople_75 ?_
        refine G_aload dX11_seatPeople_78 rfl ?_
        refine G_getI (v := h 82 k) fX11_144 rfl dX11_seatPeople_80 p3 (((gs.2.2.2 o 1 (by omega)).trans p5)) ?_
        refine G_iconst dX11_seatPeople_83 ?_
        refine G_icmp_ne (tgt := 90) dX11_seatPeople_84 (by decide) (by omega) (by decide) (fun c_3 => ?_) (fun c_3 => ?_)
        · refine G_aload_n (i := 0) dX11_seatPeople_90 rfl rfl ?_
          refine G_getR fX11_103 rfl dX11_seatPeople_91 (o0 hT) (r0_17 hT) ?_
          refine G_aload dX11_seatPeople_94 rfl ?_
          refine G_cVv (as := [.inr (some o)]) qX11_378 (x_addG (d + 9) τ g hT o (f_cn (f_B s) k) p3 p2 gs.1 (by omega)) rfl rfl (Nat.le_of_ble_eq_true rfl) (o60 hT) dX11_seatPeople_96 (fun g' e' => ?_)
          subst e'
          rw [if_pos (by omega)]
          refine G_iinc (ls' := [some (.inr (some 0)), some (.inl s), some (.inl (n : Int)), some (.inl ((k : Int) + 1)), some (.inr (some o))]) dX11_seatPeople_99 (by decide) rfl rfl ?_
          refine G_goto (tgt := 50) dX11_seatPeople_102 (by decide) ?_
          refine G_lsub (ls' := [some (.inr (some 0)), some (.inl s), some (.inl (n : Int)), some (.inl ((k : Int) + 1)), none]) (LS_same (LS_same (LS_same (LS_same (LS_none LS_nil))))) ?_
          exact ih _ (k + 1) (by omega) (by omega) (GST_1 gs (by omega) (by omega) ((gs.2.2.2 o 0 (by omega)).trans p4) ((gs.2.2.2 o 2 (by omega)).trans p6) ((gs.2.2.2 o 3 (by omega)).trans p7))
        · refine G_bipush dX11_seatPeople_87 (by decide) ?_
          refine G_iretZ rfl dX11_seatPeople_89 ?_
          refine ⟨fun q => absurd q (by omega), fun _ => ⟨fun _ => rfl, fun q => absurd (q.2.2.1 k (by omega) (by omega)) (fun z => z (by omega))⟩, gs.2.2.2⟩

theorem x_seatPeople (d : Nat) (τ : TT) (h : HT) (hT : TK τ) (x : MI h) (y : XR τ h) (s : Int) (r_s : -2147483648 ≤ s ∧ s ≤ 2147483647) (n pp : Nat) (hn : h 81 1 = n) (hpp : h 81 0 = pp) : S_ mX11_seatPeople (d + 10) 0 0 [.inr (some 0), .inl s] τ h (Zi τ fun v h' => ((h 81 1 = 0 ∨ 7 < h 81 1) → v = -3) ∧ (¬ (h 81 1 = 0 ∨ 7 < h 81 1) → (¬ f_sok h n pp s → v = -2) ∧ (f_sok h n pp s → v = 0 ∧ SEAT h h' n pp s)) ∧ ∀ c j : Nat, ¬ (60 ≤ c ∧ c ≤ 67) → h' c j = h c j) := by
  have n9 := x.n_
  have fn := y.fn_
  have pc := y.pc_
  have pp_ := x.p_
  refine S_go (k := 3) (ls := [some (.inr (some 0)), some (.inl s), none, none, none]) (by decide) rfl (Nat.le_of_ble_eq_true rfl) rfl ?_
  refine G_aload_n (i := 0) dX11_seatPeople_0 rfl rfl ?_
  refine G_getR fX11_36 rfl dX11_seatPeople_1 (o0 hT) (r0_5 hT) ?_
  refine G_getI (v := (n : Int)) fX11_157 rfl dX11_seatPeople_4 (o6 hT) ((fn.1.trans hn)) ?_
  refine G_istore_n (i := 2) (ls' := [some (.inr (some 0)), some (.inl s), some (.inl (n : Int)), none, none]) dX11_seatPeople_7 rfl (by decide) rfl ?_
  refine G_iload_n (i := 2) dX11_seatPeople_8 rfl rfl ?_
  refine G_if_eq (tgt := 18) dX11_seatPeople_9 (by decide) (by omega) (fun c_1 => ?_) (fun c_1 => ?_)
  · refine G_bipush dX11_seatPeople_18 (by decide) ?_
    refine G_iretZ rfl dX11_seatPeople_20 ?_
    exact ⟨fun _ => rfl, fun q => absurd (by omega) q, fun _ _ _ => rfl⟩
  · refine G_iload_n (i := 2) dX11_seatPeople_12 rfl rfl ?_
    refine G_bipush dX11_seatPeople_13 (by decide) ?_
    refine G_icmp_le (tgt := 21) dX11_seatPeople_15 (by decide) (by omega) (by decide) (fun c_2 => ?_) (fun c_2 => ?_)
    · refine G_iload_n (i := 1) dX11_seatPeople_21 rfl rfl ?_
      refine G_aload_n (i := 0) dX11_seatPeople_22 rfl rfl ?_
      refine G_getI (v := (pp : Int)) fX11_15 rfl dX11_seatPeople_23 (o0 hT) ((pc.trans hpp)) ?_
      refine G_iushr dX11_seatPeople_26 ?_
      have ru := b_ushr_r s (pp : Int)
      refine G_if_ne (tgt := 38) dX11_seatPeople_27 (by decide) (by omega) (fun c_3 => ?_) (fun c_3 => ?_)
      · refine G_bipush dX11_seatPeople_38 (by decide) ?_
        refine G_iretZ rfl dX11_seatPeople_40 ?_
        refine ⟨fun q => absurd q (by omega), fun _ => ⟨fun _ => rfl, fun q => ?_⟩, fun _ _ _ => rfl⟩
        exfalso
        have e1 := (bits_ok s r_s pp (by omega)).2 ⟨q.1, q.2.1⟩
        have e2 := bits_cn s r_s pp (by omega) ⟨q.1, q.2.1⟩
        rw [q.2.2.2] at e2
        omega
      · refine G_iload_n (i := 1) dX11_seatPeople_30 rfl rfl ?_
        refine G_cSq (as := [.inl s]) qX11_372 (j_bitCount (d + 9) τ h s) rfl rfl (Nat.le_of_ble_eq_true rfl) dX11_seatPeople_31 ?_
        have rc : -2147483648 ≤ bc_F s ∧ bc_F s ≤ 2147483647 := b_and_r _ _
        refine G_iload_n (i := 2) dX11_seatPeople_34 rfl rfl ?_
        refine G_icmp_eq (tgt := 41) dX11_seatPeople_35 (by decide) (by omega) (by omega) (fun c_4 => ?_) (fun c_4 => ?_)
        · refine G_aload_n (i := 0) dX11_seatPeople_41 rfl rfl ?_
          refine G_getR fX11_103 rfl dX11_seatPeople_42 (o0 hT) (r0_17 hT) ?_
          refine G_cVv (as := []) qX11_377 (x_clearS (d + 9) τ h hT) rfl rfl (Nat.le_of_ble_eq_true rfl) (o60 hT) dX11_seatPeople_45 (fun g e' => ?_)
          subst e'
          refine G_iconst dX11_seatPeople_48 ?_
          refine G_istore_n (i := 3) (ls' := [some (.inr (some 0)), some (.inl s), some (.inl (n : Int)), some (.inl 0), none]) dX11_seatPeople_49 rfl (by decide) rfl ?_
          have hs := (bits_ok s r_s pp (by omega)).1 (by assumption)
          have hcn : f_cn (f_B s) pp = n := by have := bits_cn s r_s pp (by omega) hs; omega
          refine G_lsub (ls' := [some (.inr (some 0)), some (.inl s), some (.inl (n : Int)), some (.inl 0), none]) (LS_same (LS_same (LS_same (LS_same (LS_none LS_nil))))) ?_
          exact x_seatPeople_L d τ h hT x y s r_s n pp hn hpp (by omega) (by omega) hs hcn _ _ 0 (Nat.lt_succ_self _) (Nat.zero_le _) ⟨hs_eq, fun i hi => absurd hi (Nat.not_lt_zero _), fun j hj => absurd hj (Nat.not_lt_zero _), fun c j q => hs_na (by omega)⟩
        · refine G_bipush dX11_seatPeople_38 (by decide) ?_
          refine G_iretZ rfl dX11_seatPeople_40 ?_
          refine ⟨fun q => absurd q (by omega), fun _ => ⟨fun _ => rfl, fun q => ?_⟩, fun _ _ _ => rfl⟩
          exfalso
          have e1 := (bits_ok s r_s pp (by omega)).2 ⟨q.1, q.2.1⟩
          have e2 := bits_cn s r_s pp (by omega) ⟨q.1, q.2.1⟩
          rw [q.2.2.2] at e2
          omega
    · refine G_bipush dX11_seatPeople_18 (by decide) ?_
      refine G_iretZ rfl dX11_seatPeople_20 ?_
      exact ⟨fun _ => rfl, fun q => absurd (by omega) q, fun _ _ _ => rfl⟩

theorem x_setM (d : Nat) (τ : TT) (h : HT) (hT : TK τ) (x : MI h) (y : XR τ h) (s w : Int) (r_s : -2147483648 ≤ s ∧ s ≤ 2147483647) (r_w : -2147483648 ≤ w ∧ w ≤ 2147483647) (n pp : Nat) (hn : h 81 1 = n) (hpp : h 81 0 = pp) : S_ mX11_set (d + 11) 0 0 [.inr (some 0), .inl s, .inl w] τ h (Zi τ fun v h' => (((h 81 1 = 0 ∨ 7 < h 81 1) → v = -3) ∧ (¬ (h 81 1 = 0 ∨ 7 < h 81 1) → (¬ f_sok h n pp s → v = -2) ∧ (f_sok h n pp s → ∃ o : Nat → Int, MINP n (f_SS h n pp s) (f_P n n) o ∧ v = if w = -1 then f_SS h n pp s o else if 0 ≤ w ∧ w < n then f_mb (f_B s) pp (o w.toNat).toNat else -1))) ∧ ∀ c j : Nat, ¬ (60 ≤ c ∧ c ≤ 67) → h' c j = h c j) := by
  have n9 := x.n_
  have fn := y.fn_
  refine S_go (k := 1) (ls := [some (.inr (some 0)), some (.inl s), some (.inl w), none]) (by decide) rfl (Nat.le_of_ble_eq_true rfl) rfl ?_
  refine G_aload_n (i := 0) dX11_set_0 rfl rfl ?_
  refine G_iload_n (i := 1) dX11_set_1 rfl rfl ?_
  refine G_cVi (as := [.inl s]) qX11_300 (x_seatPeople d τ h hT x y s r_s n pp hn hpp) rfl rfl (Nat.le_of_ble_eq_true rfl) (o0 hT) dX11_set_2 (fun v1 g q1 => ?_)
  obtain ⟨t1, t2, t3⟩ := q1
  by_cases u1 : h 81 1 = 0 ∨ 7 < h 81 1
  · obtain rfl := t1 u1
    refine G_istore_n (i := 3) (ls' := [some (.inr (some 0)), some (.inl s), some (.inl w), some (.inl (-3))]) dX11_set_5 rfl (by decide) rfl ?_
    refine G_iload_n (i := 3) dX11_set_6 rfl rfl ?_
    refine G_if_eq (tgt := 12) dX11_set_7 (by decide) (by decide) (fun q => absurd q (by decide)) (fun _ => ?_)
    refine G_iload_n (i := 3) dX11_set_10 rfl rfl ?_
    refine G_iretZ rfl dX11_set_11 ?_
    exact ⟨⟨fun _ => rfl, fun q => absurd u1 q⟩, t3⟩
  · by_cases u2 : f_sok h n pp s
    · obtain ⟨rfl, se⟩ := (t2 u1).2 u2
      have P66 := se.2.2.1.1
      refine G_istore_n (i := 3) (ls' := [some (.inr (some 0)), some (.inl s), some (.inl w), some (.inl 0)]) dX11_set_5 rfl (by decide) rfl ?_
      refine G_iload_n (i := 3) dX11_set_6 rfl rfl ?_
      refine G_if_eq (tgt := 12) dX11_set_7 (by decide) (by decide) (fun _ => ?_) (fun q => absurd q (by decide))
      refine G_iload_n (i := 2) dX11_set_12 rfl rfl ?_
      refine G_iconst dX11_set_13 ?_
      refine G_icmp_lt (tgt := 28) dX11_set_14 (by decide) (by omega) (by decide) (fun c_1 => ?_) (fun c_1 => ?_)
      · refine G_iconst dX11_set_28 ?_
        refine G_iretZ rfl dX11_set_29 ?_
        refine ⟨⟨fun q => absurd q u1, fun _ => ⟨fun q => absurd u2 q, fun _ => ⟨g 66, se.2.2.1, ?_⟩⟩⟩, t3⟩
        rw [if_neg (by omega), if_neg (by omega)]
      · refine G_iload_n (i := 2) dX11_set_17 rfl rfl ?_
        refine G_aload_n (i := 0) dX11_set_18 rfl rfl ?_
        refine G_getR fX11_36 rfl dX11_set_19 (o0 hT) (r0_5 hT) ?_
        refine G_getI (v := (n : Int)) fX11_157 rfl dX11_set_22 (o6 hT) (((t3 6 0 (by decide)).trans (fn.1.trans hn))) ?_
        refine G_icmp_lt (tgt := 30) dX11_set_25 (by decide) (by omega) (by omega) (fun c_2 => ?_) (fun c_2 => ?_)
        · refine G_iload_n (i := 2) dX11_set_30 rfl rfl ?_
          refine G_iconst dX11_set_31 ?_
          refine G_icmp_ne (tgt := 45) dX11_set_32 (by decide) (by omega) (by decide) (fun c_3 => ?_) (fun c_3 => ?_)
          · refine G_aload_n (i := 0) dX11_set_45 rfl rfl ?_
            refine G_getR fX11_103 rfl dX11_set_46 (o0 hT) (r0_17 hT) ?_
            refine G_iload_n (i := 2) dX11_set_49 rfl rfl ?_
            refine G_cVi (as := [.inl w]) qX11_306 (x_numberAt2 (d + 10) τ g hT w (by omega) (by have := P66.1 w.toNat (by omega); omega)) rfl rfl (Nat.le_of_ble_eq_true rfl) (o60 hT) dX11_set_50 (fun v1 h1 e1 => ?_)
            obtain ⟨rfl, eh⟩ := e1
            rw [eh]
            clear eh
            refine G_iretZ rfl dX11_set_53 ?_
            refine ⟨⟨fun q => absurd q u1, fun _ => ⟨fun q => absurd u2 q, fun _ => ⟨g 66, se.2.2.1, ?_⟩⟩⟩, t3⟩
            rw [if_neg (by omega), if_pos (by omega)]; exact (se.2.1 _ (by have := P66.1 w.toNat (by omega); omega)).1
          · refine G_aload_n (i := 0) dX11_set_35 rfl rfl ?_
            refine G_getR fX11_103 rfl dX11_set_36 (o0 hT) (r0_17 hT) ?_
            refine G_getI (v := g 60 7) fX11_303 rfl dX11_set_39 (o60 hT) rfl ?_
            refine G_goto (tgt := 53) dX11_set_42 (by decide) ?_
            refine G_iretZ rfl dX11_set_53 ?_
            refine ⟨⟨fun q => absurd q u1, fun _ => ⟨fun q => absurd u2 q, fun _ => ⟨g 66, se.2.2.1, ?_⟩⟩⟩, t3⟩
            rw [if_pos (by omega)]; exact se.2.2.2
        · refine G_iconst dX11_set_28 ?_
          refine G_iretZ rfl dX11_set_29 ?_
          refine ⟨⟨fun q => absurd q u1, fun _ => ⟨fun q => absurd u2 q, fun _ => ⟨g 66, se.2.2.1, ?_⟩⟩⟩, t3⟩
          rw [if_neg (by omega), if_neg (by omega)]
    · obtain rfl := (t2 u1).1 u2
      refine G_istore_n (i := 3) (ls' := [some (.inr (some 0)), some (.inl s), some (.inl w), some (.inl (-2))]) dX11_set_5 rfl (by decide) rfl ?_
      refine G_iload_n (i := 3) dX11_set_6 rfl rfl ?_
      refine G_if_eq (tgt := 12) dX11_set_7 (by decide) (by decide) (fun q => absurd q (by decide)) (fun _ => ?_)
      refine G_iload_n (i := 3) dX11_set_10 rfl rfl ?_
      refine G_iretZ rfl dX11_set_11 ?_
      exact ⟨⟨fun q => absurd q u1, fun _ => ⟨fun _ => rfl, fun q => absurd q u2⟩⟩, t3⟩

theorem f_sok_k {h g : HT} {n pp : Nat} {s : Int} (e : ∀ j, g 82 j = h 82 j) : f_sok g n pp s ↔ f_sok h n pp s := by
  unfold f_sok; simp only [e]
theorem f_SS_k {h g : HT} {n pp : Nat} {s : Int} (e : ∀ j, g 83 j = h 83 j) : f_SS g n pp s = f_SS h n pp s := by
  funext o; show f_sm n _ o n = f_sm n _ o n; simp only [e]
theorem op_set {τ : TT} {h : HT} (s_ : SIM τ h) (s w : Int) (r_s : -2147483648 ≤ s ∧ s ≤ 2147483647) (r_w : -2147483648 ≤ w ∧ w ≤ 2147483647) : OPS mX11_set mX12_set 20 0 0 [.inl s, .inl w] τ h := by
  obtain ⟨hT, x, y⟩ := s_
  obtain ⟨n, hn⟩ : ∃ n : Nat, h 81 1 = n := ⟨(h 81 1).toNat, by have := x.n9; omega⟩
  obtain ⟨pp, hpp⟩ : ∃ pp : Nat, h 81 0 = pp := ⟨(h 81 0).toNat, by have := x.p_; omega⟩
  refine OPS_q ⟨hT, x, y⟩ (fun v h1 => (((h 81 1 = 0 ∨ 7 < h 81 1) → v = -3) ∧ (¬ (h 81 1 = 0 ∨ 7 < h 81 1) → (¬ f_sok h n pp s → v = -2) ∧ (f_sok h n pp s → ∃ o : Nat → Int, MINP n (f_SS h n pp s) (f_P n n) o ∧ v = if w = -1 then f_SS h n pp s o else if 0 ≤ w ∧ w < n then f_mb (f_B s) pp (o w.toNat).toNat else -1))) ∧ RF h h1) (fun d => S_mono ?_ (x_setM (d + 9) τ h hT x y s w r_s r_w n pp hn hpp)) (fun d v h1 p1 kp s1 => ?_) (fun v h1 p1 _ j => p1.2 100 j (by decide) (by decide))
  · rintro r τ2 h2 ⟨rfl, v, rfl, q1, q2⟩
    exact ⟨rfl, v, rfl, ⟨q1, fun a i z1 z2 => q2 a i (by omega)⟩, fun a i q => q2 a i (by unfold SCR at q; omega)⟩
  · refine S_mono ?_ (m_set (d + 18) τ h1 hT s w r_s r_w s1.2.1 n pp ((p1.2 81 1 (by decide) (by decide)).trans hn) ((p1.2 81 0 (by decide) (by decide)).trans hpp))
    rintro r τ2 h2 ⟨rfl, v', rfl, q1, q2, q3⟩
    refine ⟨rfl, v', rfl, ?_, fun a i q => q3 a i (by unfold SCR at q; omega) (by unfold SCR at q; omega), fun j hj => ?_⟩
    · rw [p1.2 81 1 (by decide) (by decide)] at q1 q2
      by_cases u1 : h 81 1 = 0 ∨ 7 < h 81 1
      · rw [q1 u1, p1.1.1 u1]
      · have a := q2 u1
        have b := p1.1.2 u1
        rw [f_sok_k (fun j => p1.2 82 j (by decide) (by decide)), f_SS_k (fun j => p1.2 83 j (by decide) (by decide))] at a
        by_cases u2 : f_sok h n pp s
        · obtain ⟨o, o1, o2⟩ := a.2 u2
          obtain ⟨o', o1', o2'⟩ := b.2 u2
          have u := MINP_u o1 o1'
          rw [o2, o2', f_SS_c h n pp s o o' u]
          by_cases z : 0 ≤ w ∧ w < n
          · rw [u w.toNat (by omega)]
          · rw [if_neg z, if_neg z]
        · rw [a.1 u2, b.1 u2]
    · rw [q3 100 j (by omega) (by omega)]; exact s1.2.2.gs_ j hj
theorem gp_ub {P : Nat → Int} : ∀ i k : Nat, k < i → P k ≤ x_gp P i
  | 0, _, h => absurd h (Nat.not_lt_zero _)
  | i + 1, k, h => by
    show P k ≤ (if x_gp P i < P i then P i else x_gp P i)
    by_cases z : k = i
    · rw [z]; split <;> omega
    · have := gp_ub (P := P) i k (by omega)
      split <;> omega
theorem gp_nn {P : Nat → Int} : ∀ i : Nat, 0 ≤ x_gp P i
  | 0 => Int.le_refl 0
  | i + 1 => by
    have := gp_nn (P := P) i
    show 0 ≤ (if x_gp P i < P i then P i else x_gp P i)
    split <;> omega
theorem gp_at {P : Nat → Int} : ∀ i : Nat, x_gp P i = 0 ∨ ∃ k : Nat, k < i ∧ x_gp P i = P k
  | 0 => Or.inl rfl
  | i + 1 => by
    show (if x_gp P i < P i then P i else x_gp P i) = 0 ∨ ∃ k : Nat, k < i + 1 ∧ (if x_gp P i < P i then P i else x_gp P i) = P k
    split
    · exact Or.inr ⟨i, by omega, rfl⟩
    · rcases gp_at (P := P) i with e | ⟨k, hk, e⟩
      · exact Or.inl e
      · exact Or.inr ⟨k, by omega, e⟩
theorem mx_gp (P : Nat → Int) : ∀ i : Nat, f_mx P i = x_gp P i
  | 0 => rfl
  | i + 1 => by
    show (if P i ≤ f_mx P i then f_mx P i else P i) = (if x_gp P i < P i then P i else x_gp P i)
    rw [mx_gp P i]
    split <;> split <;> omega
theorem gp_P {n : Nat} {P C b : Nat → Int} (x : isP n b) (e : ∀ q : Nat, q < n → C q = P (b q).toNat) : x_gp P n = f_mx C n := by
  rw [mx_gp]
  have a : x_gp P n ≤ x_gp C n := by
    rcases gp_at (P := P) n with z | ⟨k, hk, z⟩
    · have := gp_nn (P := C) n; omega
    · obtain ⟨q, hq, eq⟩ := isP_onto x k hk
      have u := gp_ub (P := C) n q hq
      rw [e q hq, eq, Int.toNat_natCast] at u
      omega
  have b : x_gp C n ≤ x_gp P n := by
    rcases gp_at (P := C) n with z | ⟨k, hk, z⟩
    · have := gp_nn (P := P) n; omega
    · have r := x.1 k hk
      have u := gp_ub (P := P) n (b k).toNat (by omega)
      rw [e k hk] at z
      omega
  omega
theorem fmx_c {n : Nat} {C C' : Nat → Int} (e : ∀ q : Nat, q < n → C q = C' q) : ∀ p : Nat, p ≤ n → f_mx C p = f_mx C' p
  | 0, _ => rfl
  | p + 1, hp => by
    show (if C p ≤ f_mx C p then f_mx C p else C p) = (if C' p ≤ f_mx C' p then f_mx C' p else C' p)
    rw [fmx_c e p (by omega), e p (by omega)]
theorem sp_run_c {n : Nat} (hn : 3 ≤ n) {mo : Int} {C C' S : Nat → Int} (e : ∀ q : Nat, q < n → C q = C' q) : ∀ k : Nat, (sp_run n mo C S k = none ∧ sp_run n mo C' S k = none) ∨ ∃ X X' : XT, sp_run n mo C S k = some X ∧ sp_run n mo C' S k = some X' ∧ X.1 = X'.1 ∧ ∀ q : Nat, q < n → X.2 q = X'.2 q
  | 0 => Or.inr ⟨(0, C), (0, C'), rfl, rfl, rfl, e⟩
  | k + 1 => by
    rcases sp_run_c hn (mo := mo) (S := S) e k with ⟨a, b⟩ | ⟨X, X', a, b, c, d⟩
    · exact Or.inl ⟨sp_no a 1, sp_no b 1⟩
    · rw [sp_s a, sp_s b]
      unfold sp_st
      by_cases z1 : 100 ≤ S k
      · rw [if_pos z1, if_pos z1]
        exact Or.inr ⟨_, _, rfl, rfl, by show X.1 + mo = X'.1 + mo; rw [c], fun q hq => d _ (f_rot_r (by omega) hq)⟩
      · rw [if_neg z1, if_neg z1]
        by_cases z2 : (n : Int) ≤ (S k).tdiv 10
        · rw [if_pos z2, if_pos z2]; exact Or.inl ⟨rfl, rfl⟩
        · rw [if_neg z2, if_neg z2]
          refine Or.inr ⟨_, _, rfl, rfl, ?_, fun q hq => f_sw_c (by omega) d q hq⟩
          show X.1 + (X.2 _ + X.2 _) = X'.1 + (X'.2 _ + X'.2 _)
          rw [c, d _ (by omega), d (f_ny n ((S k).tdiv 10).toNat) (by unfold f_ny; split <;> omega)]
theorem sp_v_c {n : Nat} (hn : 3 ≤ n) {mo : Int} {C C' S : Nat → Int} (e : ∀ q : Nat, q < n → C q = C' q) (k : Nat) : f_spv (sp_run n mo C S k) = f_spv (sp_run n mo C' S k) := by
  rcases sp_run_c hn (mo := mo) (S := S) e k with ⟨a, b⟩ | ⟨X, X', a, b, c, d⟩
  · rw [a, b]
  · rw [a, b]; exact c
theorem x_spentM (d : Nat) (τ : TT) (h : HT) (hT : TK τ) (x : MI h) (y : XR τ h) (s f : Int) (r_s : -2147483648 ≤ s ∧ s ≤ 2147483647) (r_f : -2147483648 ≤ f ∧ f ≤ 2147483647) (n pp : Nat) (hn : h 81 1 = n) (hpp : h 81 0 = pp) : S_ mX11_spent (d + 11) 0 0 [.inr (some 0), .inl s, .inl f] τ h (Zi τ fun v h' => ((¬ (0 ≤ f ∧ f ≤ h 81 26 - 1) → v = -1) ∧ ((0 ≤ f ∧ f ≤ h 81 26 - 1) → ((h 81 1 = 0 ∨ 7 < h 81 1) → v = -3) ∧ (¬ (h 81 1 = 0 ∨ 7 < h 81 1) → (¬ f_sok h n pp s → v = -2) ∧ (f_sok h n pp s → ∃ o : Nat → Int, MINP n (f_SS h n pp s) (f_P n n) o ∧ v = f_spv (sp_run n (f_mx (f_spC h s pp o) n) (f_spC h s pp o) (fun k => h 103 (300 * f.toNat + k)) (h 102 f.toNat).toNat))))) ∧ ∀ c j : Nat, ¬ (60 ≤ c ∧ c ≤ 67) → h' c j = h c j) := by
  have n9 := x.n_
  have fn := y.fn_
  have pp_ := x.p_
  have fgc := y.fg_.1
  have f10 := x.f_
  refine S_go (k := 2) (ls := [some (.inr (some 0)), some (.inl s), some (.inl f), none, none]) (by decide) rfl (Nat.le_of_ble_eq_true rfl) rfl ?_
  refine G_aload_n (i := 0) dX11_spent_0 rfl rfl ?_
  refine G_getR fX11_79 rfl dX11_spent_1 (o0 hT) (r0_13 hT) ?_
  refine G_iload_n (i := 2) dX11_spent_4 rfl rfl ?_
  refine G_cVr (as := [.inl f]) qX11_264 (x_figureAt (d + 10) τ h hT f (by omega) (by have := y.fg_.1; have := y.fg_.2.1; omega)) rfl rfl (Nat.le_of_ble_eq_true rfl) (o39 hT) dX11_spent_5 (fun x' h' e' => ?_)
  obtain ⟨rfl, eh'⟩ := e'
  rw [eh']
  clear eh'
  by_cases hb : 0 ≤ f ∧ f < h 39 1
  · rw [if_pos hb]
    obtain ⟨b, Lb, b1, b2, b3, b4, b5, b6⟩ := y.fg_.2.2 (f).toNat (by have := y.fg_.1; omega)
    rw [b1]
    have bm := x.ma_ (f).toNat (by have := y.fg_.1; omega)
    obtain ⟨bc, be⟩ := stL_fig b5 b6
    refine G_astore_n (i := 3) (ls' := [some (.inr (some 0)), some (.inl s), some (.inl f), some (.inr (some b)), none]) dX11_spent_8 rfl (by decide) rfl ?_
    refine G_aload_n (i := 3) dX11_spent_9 rfl rfl ?_
    refine G_ifnonnullS (tgt := 15) dX11_spent_10 (by decide) ?_
    refine G_aload_n (i := 0) dX11_spent_15 rfl rfl ?_
    refine G_iload_n (i := 1) dX11_spent_16 rfl rfl ?_
    refine G_cVi (as := [.inl s]) qX11_300 (x_seatPeople d τ h hT x y s r_s n pp hn hpp) rfl rfl (Nat.le_of_ble_eq_true rfl) (o0 hT) dX11_spent_17 (fun v1 g q1 => ?_)
    obtain ⟨t1, t2, t3⟩ := q1
    by_cases u1 : h 81 1 = 0 ∨ 7 < h 81 1
    · obtain rfl := t1 u1
      refine G_istore (ls' := [some (.inr (some 0)), some (.inl s), some (.inl f), some (.inr (some b)), some (.inl (-3))]) dX11_spent_20 (by decide) rfl ?_
      refine G_iload dX11_spent_22 rfl ?_
      refine G_if_eq (tgt := 30) dX11_spent_24 (by decide) (by decide) (fun q => absurd q (by decide)) (fun _ => ?_)
      refine G_iload dX11_spent_27 rfl ?_
      refine G_iretZ rfl dX11_spent_29 ?_
      exact ⟨⟨fun q => absurd (by omega) q, fun _ => ⟨fun _ => rfl, fun q => absurd u1 q⟩⟩, t3⟩
    · by_cases u2 : f_sok h n pp s
      · obtain ⟨rfl, se⟩ := (t2 u1).2 u2
        have P66 := se.2.2.1.1
        refine G_istore (ls' := [some (.inr (some 0)), some (.inl s), some (.inl f), some (.inr (some b)), some (.inl 0)]) dX11_spent_20 (by decide) rfl ?_
        refine G_iload dX11_spent_22 rfl ?_
        refine G_if_eq (tgt := 30) dX11_spent_24 (by decide) (by decide) (fun _ => ?_) (fun q => absurd q (by decide))
        refine G_aload_n (i := 0) dX11_spent_30 rfl rfl ?_
        refine G_getR fX11_103 rfl dX11_spent_31 (o0 hT) (r0_17 hT) ?_
        refine G_aload_n (i := 3) dX11_spent_34 rfl rfl ?_
        refine G_cVi (as := [.inr (some b)]) qX11_309 (x_spentIn (d + 8) τ g hT n se.1 (by omega) (fun k hk => by rw [(se.2.1 k hk).2]; exact x.pa_ _ (by have := f_mb_r (B := f_B s) pp k (by rw [u2.2.2.2]; exact hk); omega)) b Lb b3 (by omega) (h 102 f.toNat).toNat (fun k => h 103 (300 * f.toNat + k)) (by rw [t3 b 1 (by omega)]; omega) (by omega) (fun k hk => ⟨(t3 (b + 1) k (by omega)).trans (be k hk), x.to_ f.toNat k (by omega) (by omega)⟩) (f_spC h s pp (g 66)) (fun k hk => P66.1 k hk) (fun k hk => (se.2.1 _ (by have := P66.1 k hk; omega)).2)) rfl rfl (Nat.le_of_ble_eq_true rfl) (o60 hT) dX11_spent_35 (fun v1 h1 e1 => ?_)
        obtain ⟨w1, w2⟩ := e1
        rw [gp_P (C := f_spC h s pp (g 66)) P66 (fun q hq => (se.2.1 _ (by have := P66.1 q hq; omega)).2.symm)] at w1
        refine G_iretZ rfl dX11_spent_38 ?_
        exact ⟨⟨fun q => absurd (by omega) q, fun _ => ⟨fun q => absurd q u1, fun _ => ⟨fun q => absurd u2 q, fun _ => ⟨g 66, se.2.2.1, w1⟩⟩⟩⟩, fun c j q => (w2 c j (by omega)).trans (t3 c j q)⟩
      · obtain rfl := (t2 u1).1 u2
        refine G_istore (ls' := [some (.inr (some 0)), some (.inl s), some (.inl f), some (.inr (some b)), some (.inl (-2))]) dX11_spent_20 (by decide) rfl ?_
        refine G_iload dX11_spent_22 rfl ?_
        refine G_if_eq (tgt := 30) dX11_spent_24 (by decide) (by decide) (fun q => absurd q (by decide)) (fun _ => ?_)
        refine G_iload dX11_spent_27 rfl ?_
        refine G_iretZ rfl dX11_spent_29 ?_
        exact ⟨⟨fun q => absurd (by omega) q, fun _ => ⟨fun q => absurd q u1, fun _ => ⟨fun _ => rfl, fun q => absurd q u2⟩⟩⟩, t3⟩
  · rw [if_neg hb]
    refine G_astore_n (i := 3) (ls' := [some (.inr (some 0)), some (.inl s), some (.inl f), some (.inr none), none]) dX11_spent_8 rfl (by decide) rfl ?_
    refine G_aload_n (i := 3) dX11_spent_9 rfl rfl ?_
    refine G_ifnonnullN dX11_spent_10 ?_
    refine G_iconst dX11_spent_13 ?_
    refine G_iretZ rfl dX11_spent_14 ?_
    exact ⟨⟨fun _ => rfl, fun q => absurd q (by omega)⟩, fun _ _ _ => rfl⟩

theorem op_spent {τ : TT} {h : HT} (s_ : SIM τ h) (s f : Int) (r_s : -2147483648 ≤ s ∧ s ≤ 2147483647) (r_f : -2147483648 ≤ f ∧ f ≤ 2147483647) : OPS mX11_spent mX12_spent 20 0 0 [.inl s, .inl f] τ h := by
  obtain ⟨hT, x, y⟩ := s_
  obtain ⟨n, hn⟩ : ∃ n : Nat, h 81 1 = n := ⟨(h 81 1).toNat, by have := x.n9; omega⟩
  obtain ⟨pp, hpp⟩ : ∃ pp : Nat, h 81 0 = pp := ⟨(h 81 0).toNat, by have := x.p_; omega⟩
  refine OPS_q ⟨hT, x, y⟩ (fun v h1 => ((¬ (0 ≤ f ∧ f ≤ h 81 26 - 1) → v = -1) ∧ ((0 ≤ f ∧ f ≤ h 81 26 - 1) → ((h 81 1 = 0 ∨ 7 < h 81 1) → v = -3) ∧ (¬ (h 81 1 = 0 ∨ 7 < h 81 1) → (¬ f_sok h n pp s → v = -2) ∧ (f_sok h n pp s → ∃ o : Nat → Int, MINP n (f_SS h n pp s) (f_P n n) o ∧ v = f_spv (sp_run n (f_mx (f_spC h s pp o) n) (f_spC h s pp o) (fun k => h 103 (300 * f.toNat + k)) (h 102 f.toNat).toNat))))) ∧ RF h h1) (fun d => S_mono ?_ (x_spentM (d + 9) τ h hT x y s f r_s r_f n pp hn hpp)) (fun d v h1 p1 kp s1 => ?_) (fun v h1 p1 _ j => p1.2 100 j (by decide) (by decide))
  · rintro r τ2 h2 ⟨rfl, v, rfl, q1, q2⟩
    exact ⟨rfl, v, rfl, ⟨q1, fun a i z1 z2 => q2 a i (by omega)⟩, fun a i q => q2 a i (by unfold SCR at q; omega)⟩
  · refine S_mono ?_ (m_spent (d + 18) τ h1 hT s f r_s r_f s1.2.1 n pp ((p1.2 81 1 (by decide) (by decide)).trans hn) ((p1.2 81 0 (by decide) (by decide)).trans hpp))
    rintro r τ2 h2 ⟨rfl, v', rfl, q1, q2, q3⟩
    refine ⟨rfl, v', rfl, ?_, fun a i q => q3 a i (by unfold SCR at q; omega) (by unfold SCR at q; omega), fun j hj => ?_⟩
    · rw [p1.2 81 26 (by decide) (by decide)] at q1 q2
      by_cases u0 : 0 ≤ f ∧ f ≤ h 81 26 - 1
      · have a0 := q2 u0
        have b0 := p1.1.2 u0
        rw [p1.2 81 1 (by decide) (by decide)] at a0
        by_cases u1 : h 81 1 = 0 ∨ 7 < h 81 1
        · rw [a0.1 u1, b0.1 u1]
        · have a := a0.2 u1
          have b := b0.2 u1
          rw [f_sok_k (fun j => p1.2 82 j (by decide) (by decide)), f_SS_k (fun j => p1.2 83 j (by decide) (by decide))] at a
          by_cases u2 : f_sok h n pp s
          · obtain ⟨o, o1, o2⟩ := a.2 u2
            obtain ⟨o', o1', o2'⟩ := b.2 u2
            have u := MINP_u o1 o1'
            have n_ := x.n_
            have ec : ∀ q : Nat, q < n → f_spC h1 s pp o q = f_spC h s pp o' q := fun q hq => by
              show h1 84 _ = h 84 _
              rw [p1.2 84 _ (by decide) (by decide), u q hq]
            rw [o2, o2', fmx_c ec n (Nat.le_refl _), sp_v_c (by omega) ec, p1.2 102 _ (by decide) (by decide), show (fun k => h1 103 (300 * f.toNat + k)) = (fun k => h 103 (300 * f.toNat + k)) from funext fun k => p1.2 103 _ (by decide) (by decide)]
          · rw [a.1 u2, b.1 u2]
      · rw [q1 u0, p1.1.1 u0]
    · rw [q3 100 j (by omega) (by omega)]; exact s1.2.2.gs_ j hj
