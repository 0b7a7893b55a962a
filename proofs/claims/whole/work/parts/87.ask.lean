/-! fewest: the class asks -/
def AK (n : Nat) (T G : Nat → Int) (i : Nat) : Prop := (∀ j : Nat, j < i → (0 ≤ T j ∧ T j < n) ∧ G (T j).toNat = (j : Int)) ∧ ∀ r : Nat, r < 9 → G r = -1 ∨ ∃ j : Nat, j < i ∧ T j = (r : Int) ∧ G r = (j : Int)
theorem AK.s {n i : Nat} {T G G' : Nat → Int} (hn : n ≤ 7) (x : AK n T G i) (h0 : 0 ≤ T i ∧ T i < n) (h1 : G (T i).toNat = -1) (e1 : G' (T i).toNat = (i : Int)) (e2 : ∀ r : Nat, r ≠ (T i).toNat → G' r = G r) : AK n T G' (i + 1) := by
  have ne : ∀ j : Nat, j < i → (T j).toNat ≠ (T i).toNat := fun j hj q => by
    have := (x.1 j hj).2
    rw [q, h1] at this
    omega
  refine ⟨fun j hj => ?_, fun r hr => ?_⟩
  · by_cases z : j = i
    · subst z; exact ⟨h0, e1⟩
    · have := x.1 j (by omega)
      refine ⟨this.1, ?_⟩
      rw [e2 _ (ne j (by omega))]; exact this.2
  · by_cases z : r = (T i).toNat
    · subst z; exact Or.inr ⟨i, by omega, by omega, e1⟩
    · rw [e2 r z]
      rcases x.2 r hr with y | ⟨j, j1, j2, j3⟩
      · exact Or.inl y
      · exact Or.inr ⟨j, by omega, j2, j3⟩
theorem AK.P {n : Nat} {T G : Nat → Int} (hn : n ≤ 7) (x : AK n T G n) : isP n T ∧ isP n G ∧ ∀ p : Nat, p < n → G (T p).toNat = p := by
  have t : isP n T := ⟨fun p hp => (x.1 p hp).1, fun p q hp hq e => by
    have a := (x.1 p hp).2
    have b := (x.1 q hq).2
    rw [e, b] at a; omega⟩
  refine ⟨t, ⟨fun r hr => ?_, fun r s hr hs e => ?_⟩, fun p hp => (x.1 p hp).2⟩
  · obtain ⟨q, q1, q2⟩ := isP_onto t r hr
    have := (x.1 q q1).2
    rw [q2, Int.toNat_natCast] at this
    omega
  · obtain ⟨q, q1, q2⟩ := isP_onto t r hr
    obtain ⟨u, u1, u2⟩ := isP_onto t s hs
    have a := (x.1 q q1).2
    have b := (x.1 u u1).2
    rw [q2, Int.toNat_natCast] at a
    rw [u2, Int.toNat_natCast] at b
    have : q = u := by omega
    subst this
    omega
theorem AK.no {n i : Nat} {T G : Nat → Int} (x : AK n T G i) (hi : i < n) (h0 : 0 ≤ T i ∧ T i < n) (h9 : n ≤ 7) (h1 : G (T i).toNat ≠ -1) : ¬ isP n T := fun t => by
  rcases x.2 (T i).toNat (by omega) with y | ⟨j, j1, j2, j3⟩
  · exact h1 y
  · have := t.2 j i (by omega) hi (by omega)
    omega
theorem x_ask_2 (d : Nat) (τ : TT) (h : HT) (hT : TK τ) (n : Nat) (hn : 3 ≤ n ∧ n ≤ 7) (b : Nat) (hB : ar_ τ b 13 60) (hb : 69 ≤ b ∧ b ≤ 80) (T : Nat → Int) (hN : h 6 0 = (n : Int)) (hT_ : ∀ p : Nat, p < n → h b p = T p) (hTr : ∀ p : Nat, p < n → -2147483648 ≤ T p ∧ T p ≤ 2147483647) (h7 : ∀ p : Nat, p < n → 0 ≤ h 7 p ∧ h 7 p < n) (g : HT) (fr : (∀ c j : Nat, c ≠ 56 → g c j = h c j)) (ak : AK n T (g 56) n) : ∀ (n_ : Nat) (i : Nat), n - i < n_ → i ≤ n → G_ mX4_ask (d + 1) 0 0 66 [some (.inr (some 55)), some (.inr (some 6)), some (.inr (some b)), some (.inl (i : Int)), none] [] τ (hf_ g 57 0 i (fun p => g 56 (h 7 p).toNat)) (Zi τ fun v h' => (isP n T → v = 1 ∧ ∃ G : Nat → Int, isP n G ∧ (∀ p : Nat, p < n → G (T p).toNat = p) ∧ ∀ p : Nat, p < n → h' 57 p = G (h 7 p).toNat) ∧ (¬ isP n T → v = 0) ∧ ∀ c j : Nat, c ≠ 56 → c ≠ 57 → h' c j = h c j) := by
  intro n_
  induction n_ with
  | zero => intro i hm_; exact absurd hm_ (Nat.not_lt_zero _)
  | succ n_ ih =>
    intro i hm_ hi
    refine G_iload_n (i := 3) dX4_ask_66 rfl rfl ?_
    refine G_aload_n (i := 1) dX4_ask_67 rfl rfl ?_
    refine G_getI (v := (n : Int)) fX4_34 rfl dX4_ask_68 (o6 hT) (((hf_na (by decide)).trans ((fr 6 0 (by decide)).trans hN))) ?_
    refine G_icmp_ge (tgt := 97) dX4_ask_71 (by decide) (by omega) (by omega) (fun c_1 => ?_) (fun c_1 => ?_)
    · refine G_iconst dX4_ask_97 ?_
      refine G_zretZ rfl (by decide) dX4_ask_98 ?_
      obtain rfl : i = n := by omega
      obtain ⟨P1, P2, P3⟩ := AK.P hn.2 ak
      exact ⟨fun _ => ⟨rfl, g 56, P2, P3, fun p hp => hf_in ⟨Nat.zero_le _, hp⟩⟩, fun q => absurd P1 q, fun c j z1 z2 => by rw [hf_na z2]; exact fr c j z1⟩
    · refine G_aload_n (i := 0) dX4_ask_74 rfl rfl ?_
      refine G_getR fX4_15 rfl dX4_ask_75 (o55 hT) (r55_1 hT) ?_
      refine G_iload_n (i := 3) dX4_ask_78 rfl rfl ?_
      refine G_aload_n (i := 0) dX4_ask_79 rfl rfl ?_
      refine G_getR fX4_9 rfl dX4_ask_80 (o55 hT) (r55_0 hT) ?_
      refine G_aload_n (i := 1) dX4_ask_83 rfl rfl ?_
      refine G_getR fX4_39 rfl dX4_ask_84 (o6 hT) (r6_3 hT) ?_
      refine G_iload_n (i := 3) dX4_ask_87 rfl rfl ?_
      refine G_iald (v := h 7 i) dX4_ask_88 (o7 hT) (by omega) (((hf_na (by decide)).trans (fr 7 _ (by decide)))) ?_
      have o_ := h7 i (by omega)
      refine G_iald (v := g 56 ((h 7 i).toNat)) dX4_ask_89 (o56 hT) (by omega) (hf_na (by decide)) ?_
      refine G_iastk i dX4_ask_90 (o57 hT) (by omega) rfl ?_
      refine G_iinc (ls' := [some (.inr (some 55)), some (.inr (some 6)), some (.inr (some b)), some (.inl ((i : Int) + 1)), none]) dX4_ask_91 (by decide) rfl rfl ?_
      refine G_goto (tgt := 66) dX4_ask_94 (by decide) ?_
      rw [hf_snoc (Nat.zero_le _) rfl]
      exact ih (i + 1) (by omega) (by omega)

theorem x_ask_1 (d : Nat) (τ : TT) (h : HT) (hT : TK τ) (n : Nat) (hn : 3 ≤ n ∧ n ≤ 7) (b : Nat) (hB : ar_ τ b 13 60) (hb : 69 ≤ b ∧ b ≤ 80) (T : Nat → Int) (hN : h 6 0 = (n : Int)) (hT_ : ∀ p : Nat, p < n → h b p = T p) (hTr : ∀ p : Nat, p < n → -2147483648 ≤ T p ∧ T p ≤ 2147483647) (h7 : ∀ p : Nat, p < n → 0 ≤ h 7 p ∧ h 7 p < n) : ∀ (n_ : Nat) (g : HT) (i : Nat), n - i < n_ → i ≤ n → (∀ c j : Nat, c ≠ 56 → g c j = h c j) → AK n T (g 56) i → G_ mX4_ask (d + 1) 0 0 10 [some (.inr (some 55)), some (.inr (some 6)), some (.inr (some b)), some (.inl (i : Int)), none] [] τ g (Zi τ fun v h' => (isP n T → v = 1 ∧ ∃ G : Nat → Int, isP n G ∧ (∀ p : Nat, p < n → G (T p).toNat = p) ∧ ∀ p : Nat, p < n → h' 57 p = G (h 7 p).toNat) ∧ (¬ isP n T → v = 0) ∧ ∀ c j : Nat, c ≠ 56 → c ≠ 57 → h' c j = h c j) := by
  intro n_
  induction n_ with
  | zero => intro g i hm_; exact absurd hm_ (Nat.not_lt_zero _)
  | succ n_ ih =>
    intro g i hm_ hi fr ak
    refine G_iload_n (i := 3) dX4_ask_10 rfl rfl ?_
    refine G_aload_n (i := 1) dX4_ask_11 rfl rfl ?_
    refine G_getI (v := (n : Int)) fX4_34 rfl dX4_ask_12 (o6 hT) (((fr 6 0 (by decide)).trans hN)) ?_
    refine G_icmp_ge (tgt := 64) dX4_ask_15 (by decide) (by omega) (by omega) (fun c_1 => ?_) (fun c_1 => ?_)
    · refine G_lsub (ls' := [some (.inr (some 55)), some (.inr (some 6)), some (.inr (some b)), some (.inl (i : Int)), none]) (LS_same (LS_same (LS_same (LS_same (LS_none LS_nil))))) ?_
      obtain rfl : n = i := by omega
      refine G_iconst dX4_ask_64 ?_
      refine G_istore_n (i := 3) (ls' := [some (.inr (some 55)), some (.inr (some 6)), some (.inr (some b)), some (.inl 0), none]) dX4_ask_65 rfl (by decide) rfl ?_
      have z0 := x_ask_2 d τ h hT n hn b hB hb T hN hT_ hTr h7 g fr ak _ 0 (Nat.lt_succ_self _) (Nat.zero_le _)
      rw [hf_nil] at z0
      exact z0
    · refine G_aload_n (i := 2) dX4_ask_18 rfl rfl ?_
      refine G_iload_n (i := 3) dX4_ask_19 rfl rfl ?_
      refine G_iald (v := T i) dX4_ask_20 hB (by omega) (((fr b _ (by omega)).trans (hT_ _ (by omega)))) ?_
      have t_ := hTr i (by omega)
      refine G_istore (ls' := [some (.inr (some 55)), some (.inr (some 6)), some (.inr (some b)), some (.inl (i : Int)), some (.inl (T i))]) dX4_ask_21 (by decide) rfl ?_
      refine G_iload dX4_ask_23 rfl ?_
      refine G_if_lt (tgt := 48) dX4_ask_25 (by decide) (by omega) (fun c_2 => ?_) (fun c_2 => ?_)
      · refine G_iconst dX4_ask_48 ?_
        refine G_zretZ rfl (by decide) dX4_ask_49 ?_
        exact ⟨fun q => absurd (q.1 i (by omega)) (by omega), fun _ => rfl, fun c j z1 _ => fr c j z1⟩
      · refine G_iload dX4_ask_28 rfl ?_
        refine G_aload_n (i := 1) dX4_ask_30 rfl rfl ?_
        refine G_getI (v := (n : Int)) fX4_34 rfl dX4_ask_31 (o6 hT) (((fr 6 0 (by decide)).trans hN)) ?_
        refine G_icmp_ge (tgt := 48) dX4_ask_34 (by decide) (by omega) (by omega) (fun c_3 => ?_) (fun c_3 => ?_)
        · refine G_iconst dX4_ask_48 ?_
          refine G_zretZ rfl (by decide) dX4_ask_49 ?_
          exact ⟨fun q => absurd (q.1 i (by omega)) (by omega), fun _ => rfl, fun c j z1 _ => fr c j z1⟩
        · refine G_aload_n (i := 0) dX4_ask_37 rfl rfl ?_
          refine G_getR fX4_9 rfl dX4_ask_38 (o55 hT) (r55_0 hT) ?_
          refine G_iload dX4_ask_41 rfl ?_
          refine G_iald (v := g 56 ((T i).toNat)) dX4_ask_43 (o56 hT) (by omega) rfl ?_
          have g_ : -1 ≤ g 56 ((T i).toNat) ∧ g 56 ((T i).toNat) ≤ 100 := by rcases ak.2 (T i).toNat (by omega) with y | ⟨j, j1, j2, j3⟩; (omega); (omega)
          refine G_iconst dX4_ask_44 ?_
          refine G_icmp_eq (tgt := 50) dX4_ask_45 (by decide) (by omega) (by decide) (fun c_4 => ?_) (fun c_4 => ?_)
          · refine G_aload_n (i := 0) dX4_ask_50 rfl rfl ?_
            refine G_getR fX4_9 rfl dX4_ask_51 (o55 hT) (r55_0 hT) ?_
            refine G_iload dX4_ask_54 rfl ?_
            refine G_iload_n (i := 3) dX4_ask_56 rfl rfl ?_
            refine G_iastk ((T i).toNat) dX4_ask_57 (o56 hT) (by omega) rfl ?_
            refine G_iinc (ls' := [some (.inr (some 55)), some (.inr (some 6)), some (.inr (some b)), some (.inl ((i : Int) + 1)), some (.inl (T i))]) dX4_ask_58 (by decide) rfl rfl ?_
            refine G_goto (tgt := 10) dX4_ask_61 (by decide) ?_
            refine G_lsub (ls' := [some (.inr (some 55)), some (.inr (some 6)), some (.inr (some b)), some (.inl ((i : Int) + 1)), none]) (LS_same (LS_same (LS_same (LS_same (LS_none LS_nil))))) ?_
            exact ih _ (i + 1) (by omega) (by omega) (fun c j z => by rw [hs_na z]; exact fr c j z) (ak.s hn.2 (by omega) (by omega) hs_eq (fun r z => hs_ni z))
          · refine G_iconst dX4_ask_48 ?_
            refine G_zretZ rfl (by decide) dX4_ask_49 ?_
            exact ⟨fun q => absurd q (AK.no ak (by omega) (by omega) hn.2 (by omega)), fun _ => rfl, fun c j z1 _ => fr c j z1⟩

theorem x_ask (d : Nat) (τ : TT) (h : HT) (hT : TK τ) (n : Nat) (hn : 3 ≤ n ∧ n ≤ 7) (b : Nat) (hB : ar_ τ b 13 60) (hb : 69 ≤ b ∧ b ≤ 80) (T : Nat → Int) (hN : h 6 0 = (n : Int)) (hT_ : ∀ p : Nat, p < n → h b p = T p) (hTr : ∀ p : Nat, p < n → -2147483648 ≤ T p ∧ T p ≤ 2147483647) (h7 : ∀ p : Nat, p < n → 0 ≤ h 7 p ∧ h 7 p < n) : S_ mX4_ask (d + 1) 0 0 [.inr (some 55), .inr (some 6), .inr (some b)] τ h (Zi τ fun v h' => (isP n T → v = 1 ∧ ∃ G : Nat → Int, isP n G ∧ (∀ p : Nat, p < n → G (T p).toNat = p) ∧ ∀ p : Nat, p < n → h' 57 p = G (h 7 p).toNat) ∧ (¬ isP n T → v = 0) ∧ ∀ c j : Nat, c ≠ 56 → c ≠ 57 → h' c j = h c j) := by
  refine S_go (k := 2) (ls := [some (.inr (some 55)), some (.inr (some 6)), some (.inr (some b)), none, none]) (by decide) rfl (Nat.le_of_ble_eq_true rfl) rfl ?_
  refine G_aload_n (i := 0) dX4_ask_0 rfl rfl ?_
  refine G_getR fX4_9 rfl dX4_ask_1 (o55 hT) (r55_0 hT) ?_
  refine G_iconst dX4_ask_4 ?_
  refine G_cSv (as := [.inr (some 56), .inl (-1)]) qX4_28 (j_fill d τ h 56 9 (o56 hT) (-1)) rfl rfl (Nat.le_of_ble_eq_true rfl) dX4_ask_5 (fun h' e' => ?_)
  subst e'
  refine G_iconst dX4_ask_8 ?_
  refine G_istore_n (i := 3) (ls' := [some (.inr (some 55)), some (.inr (some 6)), some (.inr (some b)), some (.inl 0), none]) dX4_ask_9 rfl (by decide) rfl ?_
  exact x_ask_1 d τ h hT n hn b hB hb T hN hT_ hTr h7 _ _ 0 (Nat.lt_succ_self _) (Nat.zero_le _) (fun c j z => hf_na z) ⟨fun j hj => absurd hj (Nat.not_lt_zero _), fun r hr => Or.inl (hf_in (by omega))⟩

