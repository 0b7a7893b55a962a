/-! the class: the picture; tapes -/
def x_tell (h : HT) (r p c : Int) : Int × HT := if h 18 3 < 40 then (1, hs_ (hs_ (hs_ (hs_ h 19 (h 18 3).toNat r) 20 (h 18 3).toNat p) 21 (h 18 3).toNat c) 18 3 (h 18 3 + 1)) else (0, h)
theorem x_tellM (d : Nat) (τ : TT) (h : HT) (hT : TK τ) (r p c : Int) (hc : 0 ≤ h 18 3 ∧ h 18 3 ≤ 40) : S_ mX6_tell d 0 0 [.inr (some 18), .inl r, .inl p, .inl c] τ h (Zi τ fun v h' => v = (x_tell h r p c).1 ∧ h' = (x_tell h r p c).2) := by
  refine S_go (k := 0) (ls := [some (.inr (some 18)), some (.inl r), some (.inl p), some (.inl c)]) (by decide) rfl (Nat.le_of_ble_eq_true rfl) rfl ?_
  refine G_aload_n (i := 0) dX6_tell_0 rfl rfl ?_
  refine G_getI (v := h 18 3) fX6_21 rfl dX6_tell_1 (o18 hT) rfl ?_
  refine G_bipush dX6_tell_4 (by decide) ?_
  refine G_icmp_lt (tgt := 11) dX6_tell_6 (by decide) (by omega) (by decide) (fun c_1 => ?_) (fun c_1 => ?_)
  · refine G_aload_n (i := 0) dX6_tell_11 rfl rfl ?_
    refine G_getR fX6_9 rfl dX6_tell_12 (o18 hT) (r18_0 hT) ?_
    refine G_aload_n (i := 0) dX6_tell_15 rfl rfl ?_
    refine G_getI (v := h 18 3) fX6_21 rfl dX6_tell_16 (o18 hT) rfl ?_
    refine G_iload_n (i := 1) dX6_tell_19 rfl rfl ?_
    refine G_iastk ((h 18 3).toNat) dX6_tell_20 (o19 hT) (by omega) rfl ?_
    refine G_aload_n (i := 0) dX6_tell_21 rfl rfl ?_
    refine G_getR fX6_15 rfl dX6_tell_22 (o18 hT) (r18_1 hT) ?_
    refine G_aload_n (i := 0) dX6_tell_25 rfl rfl ?_
    refine G_getI (v := h 18 3) fX6_21 rfl dX6_tell_26 (o18 hT) (hs_na (by decide)) ?_
    refine G_iload_n (i := 2) dX6_tell_29 rfl rfl ?_
    refine G_iastk ((h 18 3).toNat) dX6_tell_30 (o20 hT) (by omega) rfl ?_
    refine G_aload_n (i := 0) dX6_tell_31 rfl rfl ?_
    refine G_getR fX6_18 rfl dX6_tell_32 (o18 hT) (r18_2 hT) ?_
    refine G_aload_n (i := 0) dX6_tell_35 rfl rfl ?_
    refine G_getI (v := h 18 3) fX6_21 rfl dX6_tell_36 (o18 hT) ((hs_na (by decide)).trans (hs_na (by decide))) ?_
    refine G_iload_n (i := 3) dX6_tell_39 rfl rfl ?_
    refine G_iastk ((h 18 3).toNat) dX6_tell_40 (o21 hT) (by omega) rfl ?_
    refine G_aload_n (i := 0) dX6_tell_41 rfl rfl ?_
    refine G_dup dX6_tell_42 ?_
    refine G_getI (v := h 18 3) fX6_21 rfl dX6_tell_43 (o18 hT) ((hs_na (by decide)).trans ((hs_na (by decide)).trans (hs_na (by decide)))) ?_
    refine G_iconst dX6_tell_46 ?_
    refine G_iadd dX6_tell_47 ?_
    refine G_putI fX6_21 dX6_tell_48 (o18 hT) ?_
    refine G_iconst dX6_tell_51 ?_
    refine G_zretZ rfl (by decide) dX6_tell_52 ?_
    unfold x_tell; first | (rw [if_pos (by omega)]; exact ⟨rfl, rfl⟩) | (rw [if_neg (by omega)]; exact ⟨rfl, rfl⟩)
  · refine G_iconst dX6_tell_9 ?_
    refine G_zretZ rfl (by decide) dX6_tell_10 ?_
    unfold x_tell; first | (rw [if_pos (by omega)]; exact ⟨rfl, rfl⟩) | (rw [if_neg (by omega)]; exact ⟨rfl, rfl⟩)

abbrev x_gd (h : HT) (k : Nat) : Prop := x_has h (h 19 k) (h 20 k)
def x_wr (h : HT) : Nat → Int
  | 0 => 0
  | k + 1 => x_wr h k + if x_gd h k ∧ x_tat h (h 19 k) (h 20 k) = h 21 k then 0 else 1
theorem x_wrongOn_L (d : Nat) (τ : TT) (h : HT) (hT : TK τ) (hrr : 0 ≤ h 13 1 ∧ h 13 1 ≤ 100) (hn : 0 ≤ h 13 0 ∧ h 13 0 ≤ 9) (tk : x_topok h) (hc : 0 ≤ h 18 3 ∧ h 18 3 ≤ 40) (h9 : ∀ k : Nat, k < 40 → (0 ≤ h 19 k ∧ h 19 k ≤ 99) ∧ (0 ≤ h 20 k ∧ h 20 k ≤ 8) ∧ (0 ≤ h 21 k ∧ h 21 k ≤ 7)) (h17 : ∀ k : Nat, k < 9 → 0 ≤ h 17 k ∧ h 17 k ≤ 7) : ∀ (n_ : Nat) (i : Nat), (h 18 3).toNat - i < n_ → (i : Int) ≤ h 18 3 → G_ mX6_wrongOn (d + 2) 0 0 4 [some (.inr (some 18)), some (.inr (some 13)), some (.inl (x_wr h i)), some (.inl (i : Int))] [] τ h (Zi τ fun v h' => v = x_wr h (h 18 3).toNat ∧ h' = h) := by
  intro n_
  induction n_ with
  | zero => intro i hm_; exact absurd hm_ (Nat.not_lt_zero _)
  | succ n_ ih =>
    intro i hm_ hi
    refine G_iload_n (i := 3) dX6_wrongOn_4 rfl rfl ?_
    refine G_aload_n (i := 0) dX6_wrongOn_5 rfl rfl ?_
    refine G_getI (v := h 18 3) fX6_21 rfl dX6_wrongOn_6 (o18 hT) rfl ?_
    refine G_icmp_ge (tgt := 65) dX6_wrongOn_9 (by decide) (by omega) (by omega) (fun c_1 => ?_) (fun c_1 => ?_)
    · refine G_iload_n (i := 2) dX6_wrongOn_65 rfl rfl ?_
      refine G_iretZ rfl dX6_wrongOn_66 ?_
      obtain rfl : i = (h 18 3).toNat := by omega
      exact ⟨rfl, rfl⟩
    · refine G_aload_n (i := 1) dX6_wrongOn_12 rfl rfl ?_
      refine G_aload_n (i := 0) dX6_wrongOn_13 rfl rfl ?_
      refine G_getR fX6_9 rfl dX6_wrongOn_14 (o18 hT) (r18_0 hT) ?_
      refine G_iload_n (i := 3) dX6_wrongOn_17 rfl rfl ?_
      refine G_iald (v := h 19 i) dX6_wrongOn_18 (o19 hT) (by omega) rfl ?_
      have e_ := h9 i (by omega)
      refine G_aload_n (i := 0) dX6_wrongOn_19 rfl rfl ?_
      refine G_getR fX6_15 rfl dX6_wrongOn_20 (o18 hT) (r18_1 hT) ?_
      refine G_iload_n (i := 3) dX6_wrongOn_23 rfl rfl ?_
      refine G_iald (v := h 20 i) dX6_wrongOn_24 (o20 hT) (by omega) rfl ?_
      refine G_cVq (as := [.inl (h 19 i), .inl (h 20 i)]) qX6_34 (x_hasM (d + 1) τ h hT (h 19 i) (h 20 i) (by omega) (by omega) (by omega) (by omega)) rfl rfl (Nat.le_of_ble_eq_true rfl) (o13 hT) dX6_wrongOn_25 ?_
      refine G_ifb_eq (tgt := 56) dX6_wrongOn_28 (by decide) (fun c_2 => ?_) (fun c_2 => ?_)
      · refine G_iinc (ls' := [some (.inr (some 18)), some (.inr (some 13)), some (.inl ((x_wr h i) + 1)), some (.inl (i : Int))]) dX6_wrongOn_56 (by decide) rfl rfl ?_
        refine G_iinc (ls' := [some (.inr (some 18)), some (.inr (some 13)), some (.inl ((x_wr h i) + 1)), some (.inl ((i : Int) + 1))]) dX6_wrongOn_59 (by decide) rfl rfl ?_
        refine G_goto (tgt := 4) dX6_wrongOn_62 (by decide) ?_
        rw [show (x_wr h i) + 1 = x_wr h (i + 1) from by show _ = x_wr h i + (if x_gd h i ∧ x_tat h (h 19 i) (h 20 i) = h 21 i then 0 else 1); rw [if_neg (fun q => absurd q.1 (by assumption))]]
        exact ih (i + 1) (by omega) (by omega)
      · refine G_aload_n (i := 1) dX6_wrongOn_31 rfl rfl ?_
        refine G_aload_n (i := 0) dX6_wrongOn_32 rfl rfl ?_
        refine G_getR fX6_9 rfl dX6_wrongOn_33 (o18 hT) (r18_0 hT) ?_
        refine G_iload_n (i := 3) dX6_wrongOn_36 rfl rfl ?_
        refine G_iald (v := h 19 i) dX6_wrongOn_37 (o19 hT) (by omega) rfl ?_
        have e_ := h9 i (by omega)
        refine G_aload_n (i := 0) dX6_wrongOn_38 rfl rfl ?_
        refine G_getR fX6_15 rfl dX6_wrongOn_39 (o18 hT) (r18_1 hT) ?_
        refine G_iload_n (i := 3) dX6_wrongOn_42 rfl rfl ?_
        refine G_iald (v := h 20 i) dX6_wrongOn_43 (o20 hT) (by omega) rfl ?_
        refine G_cVq (as := [.inl (h 19 i), .inl (h 20 i)]) qX6_40 (x_topAt d τ h hT (h 19 i) (h 20 i) hrr hn tk (by omega) (by omega)) rfl rfl (Nat.le_of_ble_eq_true rfl) (o13 hT) dX6_wrongOn_44 ?_
        have t_ := x_topok_i tk (r := h 19 i) (p := h 20 i) (by omega) (by omega)
        have u_ : 0 ≤ x_tat h (h 19 i) (h 20 i) ∧ x_tat h (h 19 i) (h 20 i) ≤ 7 := h17 (h 16 (9 * h 19 i + h 20 i).toNat).toNat (by omega)
        refine G_aload_n (i := 0) dX6_wrongOn_47 rfl rfl ?_
        refine G_getR fX6_18 rfl dX6_wrongOn_48 (o18 hT) (r18_2 hT) ?_
        refine G_iload_n (i := 3) dX6_wrongOn_51 rfl rfl ?_
        refine G_iald (v := h 21 i) dX6_wrongOn_52 (o21 hT) (by omega) rfl ?_
        refine G_icmp_eq (tgt := 59) dX6_wrongOn_53 (by decide) (by omega) (by omega) (fun c_3 => ?_) (fun c_3 => ?_)
        · refine G_iinc (ls' := [some (.inr (some 18)), some (.inr (some 13)), some (.inl (x_wr h i)), some (.inl ((i : Int) + 1))]) dX6_wrongOn_59 (by decide) rfl rfl ?_
          refine G_goto (tgt := 4) dX6_wrongOn_62 (by decide) ?_
          rw [show x_wr h i = x_wr h (i + 1) from by show _ = x_wr h i + (if x_gd h i ∧ x_tat h (h 19 i) (h 20 i) = h 21 i then 0 else 1); rw [if_pos ⟨by assumption, by assumption⟩, Int.add_zero]]
          exact ih (i + 1) (by omega) (by omega)
        · refine G_iinc (ls' := [some (.inr (some 18)), some (.inr (some 13)), some (.inl ((x_wr h i) + 1)), some (.inl (i : Int))]) dX6_wrongOn_56 (by decide) rfl rfl ?_
          refine G_iinc (ls' := [some (.inr (some 18)), some (.inr (some 13)), some (.inl ((x_wr h i) + 1)), some (.inl ((i : Int) + 1))]) dX6_wrongOn_59 (by decide) rfl rfl ?_
          refine G_goto (tgt := 4) dX6_wrongOn_62 (by decide) ?_
          rw [show (x_wr h i) + 1 = x_wr h (i + 1) from by show _ = x_wr h i + (if x_gd h i ∧ x_tat h (h 19 i) (h 20 i) = h 21 i then 0 else 1); rw [if_neg (fun q => absurd q.2 (by assumption))]]
          exact ih (i + 1) (by omega) (by omega)

theorem x_wrongOn (d : Nat) (τ : TT) (h : HT) (hT : TK τ) (hrr : 0 ≤ h 13 1 ∧ h 13 1 ≤ 100) (hn : 0 ≤ h 13 0 ∧ h 13 0 ≤ 9) (tk : x_topok h) (hc : 0 ≤ h 18 3 ∧ h 18 3 ≤ 40) (h9 : ∀ k : Nat, k < 40 → (0 ≤ h 19 k ∧ h 19 k ≤ 99) ∧ (0 ≤ h 20 k ∧ h 20 k ≤ 8) ∧ (0 ≤ h 21 k ∧ h 21 k ≤ 7)) (h17 : ∀ k : Nat, k < 9 → 0 ≤ h 17 k ∧ h 17 k ≤ 7) : S_ mX6_wrongOn (d + 2) 0 0 [.inr (some 18), .inr (some 13)] τ h (Zi τ fun v h' => v = x_wr h (h 18 3).toNat ∧ h' = h) := by
  refine S_go (k := 2) (ls := [some (.inr (some 18)), some (.inr (some 13)), none, none]) (by decide) rfl (Nat.le_of_ble_eq_true rfl) rfl ?_
  refine G_iconst dX6_wrongOn_0 ?_
  refine G_istore_n (i := 2) (ls' := [some (.inr (some 18)), some (.inr (some 13)), some (.inl 0), none]) dX6_wrongOn_1 rfl (by decide) rfl ?_
  refine G_iconst dX6_wrongOn_2 ?_
  refine G_istore_n (i := 3) (ls' := [some (.inr (some 18)), some (.inr (some 13)), some (.inl 0), some (.inl 0)]) dX6_wrongOn_3 rfl (by decide) rfl ?_
  exact x_wrongOn_L d τ h hT hrr hn tk hc h9 h17 _ 0 (Nat.lt_succ_self _) (by omega)

/-- the least of the colours below k that is asked for most -/
def x_mb (A : Nat → Int) (r : Nat) : Nat → Nat
  | 0 => 0
  | k + 1 => if A (8 * r + x_mb A r k) < A (8 * r + k) then k else x_mb A r k
theorem x_mb_r {A : Nat → Int} {r : Nat} : ∀ k : Nat, 0 < k → x_mb A r k < k
  | 0, h => absurd h (Nat.not_lt_zero _)
  | k + 1, _ => by
    show (if A (8 * r + x_mb A r k) < A (8 * r + k) then k else x_mb A r k) < k + 1
    split
    · omega
    · by_cases z : k = 0
      · subst z; show (0 : Nat) < 0 + 1; omega
      · have := x_mb_r (A := A) (r := r) k (by omega); omega
theorem x_mb_max {A : Nat → Int} {r : Nat} : ∀ k : Nat, ∀ j : Nat, j < k → A (8 * r + j) ≤ A (8 * r + x_mb A r k) ∧ (j < x_mb A r k → A (8 * r + j) < A (8 * r + x_mb A r k))
  | 0, j, h => absurd h (Nat.not_lt_zero _)
  | k + 1, j, h => by
    show A (8 * r + j) ≤ A (8 * r + (if A (8 * r + x_mb A r k) < A (8 * r + k) then k else x_mb A r k)) ∧ (j < (if A (8 * r + x_mb A r k) < A (8 * r + k) then k else x_mb A r k) → A (8 * r + j) < A (8 * r + (if A (8 * r + x_mb A r k) < A (8 * r + k) then k else x_mb A r k)))
    have ih := x_mb_max (A := A) (r := r) k j
    by_cases z : A (8 * r + x_mb A r k) < A (8 * r + k)
    · rw [if_pos z]
      rcases Nat.lt_succ_iff_lt_or_eq.mp h with y | y
      · have := ih y; exact ⟨by omega, fun _ => by omega⟩
      · subst y; exact ⟨Int.le_refl _, fun q => absurd q (Nat.lt_irrefl _)⟩
    · rw [if_neg z]
      rcases Nat.lt_succ_iff_lt_or_eq.mp h with y | y
      · exact ih y
      · subst y
        refine ⟨by omega, fun q => ?_⟩
        by_cases y : j = 0
        · subst y; exact absurd q (Nat.not_lt_zero _)
        · have := x_mb_r (A := A) (r := r) j (by omega); omega
theorem x_mostAsked_L (d : Nat) (τ : TT) (h : HT) (hT : TK τ) (r c : Nat) (hr : r < 9) (hc4 : 1 ≤ c ∧ c ≤ 4) (h22 : ∀ k : Nat, k < 72 → 0 ≤ h 22 k ∧ h 22 k ≤ 100) : ∀ (n_ : Nat) (i : Nat), c - i < n_ → i ≤ c → 1 ≤ i → G_ mX6_mostAsked d 0 0 5 [some (.inr (some 18)), some (.inl (r : Int)), some (.inl (c : Int)), some (.inl ((x_mb (h 22) r i) : Int)), some (.inl (i : Int))] [] τ h (Zi τ fun v h' => v = ((x_mb (h 22) r c : Nat) : Int) ∧ h' = h) := by
  intro n_
  induction n_ with
  | zero => intro i hm_; exact absurd hm_ (Nat.not_lt_zero _)
  | succ n_ ih =>
    intro i hm_ hi hi1
    have hmb := x_mb_r (A := h 22) (r := r) i (by omega)
    refine G_iload dX6_mostAsked_5 rfl ?_
    refine G_iload_n (i := 2) dX6_mostAsked_7 rfl rfl ?_
    refine G_icmp_ge (tgt := 46) dX6_mostAsked_8 (by decide) (by omega) (by omega) (fun c_1 => ?_) (fun c_1 => ?_)
    · refine G_iload_n (i := 3) dX6_mostAsked_46 rfl rfl ?_
      refine G_iretZ rfl dX6_mostAsked_47 ?_
      obtain rfl : i = c := by omega
      exact ⟨rfl, rfl⟩
    · refine G_aload_n (i := 0) dX6_mostAsked_11 rfl rfl ?_
      refine G_getR fX6_25 rfl dX6_mostAsked_12 (o18 hT) (r18_4 hT) ?_
      refine G_bipush dX6_mostAsked_15 (by decide) ?_
      refine G_iload_n (i := 1) dX6_mostAsked_17 rfl rfl ?_
      refine G_imul dX6_mostAsked_18 ?_
      refine G_iload dX6_mostAsked_19 rfl ?_
      refine G_iadd dX6_mostAsked_21 ?_
      refine G_iald (v := h 22 ((8 * r) + i)) dX6_mostAsked_22 (o22 hT) (by omega) rfl ?_
      have e22_ := h22 ((8 * r) + i) (by omega)
      refine G_aload_n (i := 0) dX6_mostAsked_23 rfl rfl ?_
      refine G_getR fX6_25 rfl dX6_mostAsked_24 (o18 hT) (r18_4 hT) ?_
      refine G_bipush dX6_mostAsked_27 (by decide) ?_
      refine G_iload_n (i := 1) dX6_mostAsked_29 rfl rfl ?_
      refine G_imul dX6_mostAsked_30 ?_
      refine G_iload_n (i := 3) dX6_mostAsked_31 rfl rfl ?_
      refine G_iadd dX6_mostAsked_32 ?_
      refine G_iald (v := h 22 ((8 * r) + (x_mb (h 22) r i))) dX6_mostAsked_33 (o22 hT) (by omega) rfl ?_
      have e33_ := h22 ((8 * r) + (x_mb (h 22) r i)) (by omega)
      refine G_icmp_le (tgt := 40) dX6_mostAsked_34 (by decide) (by omega) (by omega) (fun c_2 => ?_) (fun c_2 => ?_)
      · refine G_iinc (ls' := [some (.inr (some 18)), some (.inl (r : Int)), some (.inl (c : Int)), some (.inl ((x_mb (h 22) r i) : Int)), some (.inl ((i : Int) + 1))]) dX6_mostAsked_40 (by decide) rfl rfl ?_
        refine G_goto (tgt := 5) dX6_mostAsked_43 (by decide) ?_
        have es : x_mb (h 22) r (i + 1) = x_mb (h 22) r i := by show (if h 22 (8 * r + x_mb (h 22) r i) < h 22 (8 * r + i) then i else x_mb (h 22) r i) = _; rw [if_neg (by omega)]
        have := ih (i + 1) (by omega) (by omega) (by omega)
        rw [es] at this
        exact this
      · refine G_iload dX6_mostAsked_37 rfl ?_
        refine G_istore_n (i := 3) (ls' := [some (.inr (some 18)), some (.inl (r : Int)), some (.inl (c : Int)), some (.inl (i : Int)), some (.inl (i : Int))]) dX6_mostAsked_39 rfl (by decide) rfl ?_
        refine G_iinc (ls' := [some (.inr (some 18)), some (.inl (r : Int)), some (.inl (c : Int)), some (.inl (i : Int)), some (.inl ((i : Int) + 1))]) dX6_mostAsked_40 (by decide) rfl rfl ?_
        refine G_goto (tgt := 5) dX6_mostAsked_43 (by decide) ?_
        have es : x_mb (h 22) r (i + 1) = i := by show (if h 22 (8 * r + x_mb (h 22) r i) < h 22 (8 * r + i) then i else x_mb (h 22) r i) = _; rw [if_pos (by omega)]
        have := ih (i + 1) (by omega) (by omega) (by omega)
        rw [es] at this
        exact this

theorem x_mostAsked (d : Nat) (τ : TT) (h : HT) (hT : TK τ) (r c : Nat) (hr : r < 9) (hc4 : 1 ≤ c ∧ c ≤ 4) (h22 : ∀ k : Nat, k < 72 → 0 ≤ h 22 k ∧ h 22 k ≤ 100) : S_ mX6_mostAsked d 0 0 [.inr (some 18), .inl (r : Int), .inl (c : Int)] τ h (Zi τ fun v h' => v = ((x_mb (h 22) r c : Nat) : Int) ∧ h' = h) := by
  refine S_go (k := 2) (ls := [some (.inr (some 18)), some (.inl (r : Int)), some (.inl (c : Int)), none, none]) (by decide) rfl (Nat.le_of_ble_eq_true rfl) rfl ?_
  refine G_iconst dX6_mostAsked_0 ?_
  refine G_istore_n (i := 3) (ls' := [some (.inr (some 18)), some (.inl (r : Int)), some (.inl (c : Int)), some (.inl 0), none]) dX6_mostAsked_1 rfl (by decide) rfl ?_
  refine G_iconst dX6_mostAsked_2 ?_
  refine G_istore (ls' := [some (.inr (some 18)), some (.inl (r : Int)), some (.inl (c : Int)), some (.inl 0), some (.inl 1)]) dX6_mostAsked_3 (by decide) rfl ?_
  have e1 : x_mb (h 22) r 1 = 0 := by show (if _ then 0 else 0) = 0; split <;> rfl
  have := x_mostAsked_L d τ h hT r c hr hc4 h22 _ 1 (Nat.lt_succ_self _) (by omega) (Nat.le_refl _)
  rw [e1] at this
  exact this

def x_cnt (h : HT) : Nat → Nat → Int
  | 0, _ => 0
  | k + 1, j => x_cnt h k j + if x_gd h k ∧ 8 * h 16 (9 * h 19 k + h 20 k).toNat + h 21 k = (j : Int) then 1 else 0
theorem x_cnt_r (h : HT) : ∀ (k j : Nat), 0 ≤ x_cnt h k j ∧ x_cnt h k j ≤ k
  | 0, _ => ⟨Int.le_refl 0, Int.le_refl 0⟩
  | k + 1, j => by
    have := x_cnt_r h k j
    show 0 ≤ x_cnt h k j + (if _ then 1 else 0) ∧ x_cnt h k j + (if _ then 1 else 0) ≤ ((k + 1 : Nat) : Int)
    split <;> omega
def x_sA (A : Nat → Int) (c : Nat) : Nat → Int
  | 0 => 0
  | r + 1 => x_sA A c r + A (8 * r + x_mb A r c)
theorem x_ak_s {h : HT} {i K : Nat} (g : x_gd h i) (hK : 8 * h 16 (9 * h 19 i + h 20 i).toNat + h 21 i = (K : Int)) (hK2 : K < 72) : hs_ (hf_ h 22 0 72 (x_cnt h i)) 22 K (hf_ h 22 0 72 (x_cnt h i) 22 K + 1) = hf_ h 22 0 72 (x_cnt h (i + 1)) := by
  funext b j
  by_cases z : b = 22
  · subst z
    by_cases y : j = K
    · subst y
      rw [hs_eq, hf_in ⟨Nat.zero_le _, hK2⟩, hf_in ⟨Nat.zero_le _, hK2⟩]
      show _ = x_cnt h i j + (if x_gd h i ∧ 8 * h 16 (9 * h 19 i + h 20 i).toNat + h 21 i = (j : Int) then 1 else 0)
      rw [if_pos ⟨g, hK⟩]
    · rw [hs_ni y]
      by_cases x : j < 72
      · rw [hf_in ⟨Nat.zero_le _, x⟩, hf_in ⟨Nat.zero_le _, x⟩]
        show _ = x_cnt h i j + (if x_gd h i ∧ 8 * h 16 (9 * h 19 i + h 20 i).toNat + h 21 i = (j : Int) then 1 else 0)
        rw [if_neg (fun q => y (by have := q.2; omega)), Int.add_zero]
      · rw [hf_ni (fun q => x q.2), hf_ni (fun q => x q.2)]
  · rw [hs_na z, hf_na z, hf_na z]
theorem x_ak_n {h : HT} {i : Nat} (g : ¬ x_gd h i) : hf_ h 22 0 72 (x_cnt h i) = hf_ h 22 0 72 (x_cnt h (i + 1)) := hf_c fun j _ _ => by
  show _ = x_cnt h i j + (if x_gd h i ∧ 8 * h 16 (9 * h 19 i + h 20 i).toNat + h 21 i = (j : Int) then 1 else 0)
  rw [if_neg (fun q => g q.1), Int.add_zero]
theorem x_choose_L1 (d : Nat) (τ : TT) (h : HT) (hT : TK τ) (hrr : 0 ≤ h 13 1 ∧ h 13 1 ≤ 100) (hn : 0 ≤ h 13 0 ∧ h 13 0 ≤ 9) (tk : x_topok h) (hc : 0 ≤ h 18 3 ∧ h 18 3 ≤ 40) (h9 : ∀ k : Nat, k < 40 → (0 ≤ h 19 k ∧ h 19 k ≤ 99) ∧ (0 ≤ h 20 k ∧ h 20 k ≤ 8) ∧ (0 ≤ h 21 k ∧ h 21 k ≤ 7)) (c : Nat) (Z : ZT) (K : G_ mX6_choose (d + 1) 0 0 78 [some (.inr (some 18)), some (.inr (some 13)), some (.inl (c : Int)), none] [] τ (hf_ h 22 0 72 (x_cnt h (h 18 3).toNat)) (Z)) : ∀ (n_ : Nat) (i : Nat), (h 18 3).toNat - i < n_ → (i : Int) ≤ h 18 3 → G_ mX6_choose (d + 1) 0 0 10 [some (.inr (some 18)), some (.inr (some 13)), some (.inl (c : Int)), some (.inl (i : Int))] [] τ (hf_ h 22 0 72 (x_cnt h i)) (Z) := by
  intro n_
  induction n_ with
  | zero => intro i hm_; exact absurd hm_ (Nat.not_lt_zero _)
  | succ n_ ih =>
    intro i hm_ hi
    refine G_iload_n (i := 3) dX6_choose_10 rfl rfl ?_
    refine G_aload_n (i := 0) dX6_choose_11 rfl rfl ?_
    refine G_getI (v := h 18 3) fX6_21 rfl dX6_choose_12 (o18 hT) (hf_na (by decide)) ?_
    refine G_icmp_ge (tgt := 78) dX6_choose_15 (by decide) (by omega) (by omega) (fun c_1 => ?_) (fun c_1 => ?_)
    · refine G_lsub (ls' := [some (.inr (some 18)), some (.inr (some 13)), some (.inl (c : Int)), none]) (LS_same (LS_same (LS_same (LS_none LS_nil)))) ?_
      obtain rfl : i = (h 18 3).toNat := by omega
      exact K
    · refine G_aload_n (i := 1) dX6_choose_18 rfl rfl ?_
      refine G_aload_n (i := 0) dX6_choose_19 rfl rfl ?_
      refine G_getR fX6_9 rfl dX6_choose_20 (o18 hT) (r18_0 hT) ?_
      refine G_iload_n (i := 3) dX6_choose_23 rfl rfl ?_
      refine G_iald (v := h 19 i) dX6_choose_24 (o19 hT) (by omega) (hf_na (by decide)) ?_
      have e_ := h9 i (by omega)
      refine G_aload_n (i := 0) dX6_choose_25 rfl rfl ?_
      refine G_getR fX6_15 rfl dX6_choose_26 (o18 hT) (r18_1 hT) ?_
      refine G_iload_n (i := 3) dX6_choose_29 rfl rfl ?_
      refine G_iald (v := h 20 i) dX6_choose_30 (o20 hT) (by omega) (hf_na (by decide)) ?_
      refine G_cVi (as := [.inl (h 19 i), .inl (h 20 i)]) qX6_34 (x_hasM d τ (hf_ h 22 0 72 (x_cnt h i)) hT (h 19 i) (h 20 i) (by omega) (by omega) (by rw [hf_na (by decide)]; omega) (by rw [hf_na (by decide)]; omega)) rfl rfl (Nat.le_of_ble_eq_true rfl) (o13 hT) dX6_choose_31 (fun v' h' e' => ?_)
      obtain ⟨rfl, rfl⟩ := e'
      rw [show (if x_has (hf_ h 22 0 72 (x_cnt h i)) (h 19 i) (h 20 i) then (1 : Int) else 0) = (if x_gd h i then 1 else 0) from by unfold x_gd x_has; rw [hf_na (by decide), hf_na (by decide)]]
      refine G_ifb_eq (tgt := 72) dX6_choose_34 (by decide) (fun c_2 => ?_) (fun c_2 => ?_)
      · refine G_iinc (ls' := [some (.inr (some 18)), some (.inr (some 13)), some (.inl (c : Int)), some (.inl ((i : Int) + 1))]) dX6_choose_72 (by decide) rfl rfl ?_
        refine G_goto (tgt := 10) dX6_choose_75 (by decide) ?_
        rw [x_ak_n (h := h) (i := i) (by assumption)]
        exact ih (i + 1) (by omega) (by omega)
      · refine G_aload_n (i := 0) dX6_choose_37 rfl rfl ?_
        refine G_getR fX6_25 rfl dX6_choose_38 (o18 hT) (r18_4 hT) ?_
        refine G_bipush dX6_choose_41 (by decide) ?_
        refine G_aload_n (i := 1) dX6_choose_43 rfl rfl ?_
        refine G_aload_n (i := 0) dX6_choose_44 rfl rfl ?_
        refine G_getR fX6_9 rfl dX6_choose_45 (o18 hT) (r18_0 hT) ?_
        refine G_iload_n (i := 3) dX6_choose_48 rfl rfl ?_
        refine G_iald (v := h 19 i) dX6_choose_49 (o19 hT) (by omega) (hf_na (by decide)) ?_
        have e_ := h9 i (by omega)
        refine G_aload_n (i := 0) dX6_choose_50 rfl rfl ?_
        refine G_getR fX6_15 rfl dX6_choose_51 (o18 hT) (r18_1 hT) ?_
        refine G_iload_n (i := 3) dX6_choose_54 rfl rfl ?_
        refine G_iald (v := h 20 i) dX6_choose_55 (o20 hT) (by omega) (hf_na (by decide)) ?_
        refine G_cVi (as := [.inl (h 19 i), .inl (h 20 i)]) qX6_50 (x_topRibbonM d τ (hf_ h 22 0 72 (x_cnt h i)) hT (h 19 i) (h 20 i) (by omega) (by omega)) rfl rfl (Nat.le_of_ble_eq_true rfl) (o13 hT) dX6_choose_56 (fun v' h' e' => ?_)
        obtain ⟨rfl, rfl⟩ := e'
        rw [show (hf_ h 22 0 72 (x_cnt h i)) 16 (9 * h 19 i + h 20 i).toNat = h 16 (9 * h 19 i + h 20 i).toNat from hf_na (by decide)]
        have gx : x_gd h i := by assumption
        have t_ := x_topok_i tk (r := h 19 i) (p := h 20 i) (by omega) (by omega)
        refine G_imul dX6_choose_59 ?_
        refine G_aload_n (i := 0) dX6_choose_60 rfl rfl ?_
        refine G_getR fX6_18 rfl dX6_choose_61 (o18 hT) (r18_2 hT) ?_
        refine G_iload_n (i := 3) dX6_choose_64 rfl rfl ?_
        refine G_iald (v := h 21 i) dX6_choose_65 (o21 hT) (by omega) (hf_na (by decide)) ?_
        refine G_iadd dX6_choose_66 ?_
        refine G_dup2 dX6_choose_67 ?_
        refine G_iald (v := (hf_ h 22 0 72 (x_cnt h i)) 22 (((8 * (h 16 (9 * h 19 i + h 20 i).toNat)) + (h 21 i)).toNat)) dX6_choose_68 (o22 hT) (by omega) rfl ?_
        refine G_iconst dX6_choose_69 ?_
        refine G_iadd dX6_choose_70 ?_
        refine G_iastk (((8 * (h 16 (9 * h 19 i + h 20 i).toNat)) + (h 21 i)).toNat) dX6_choose_71 (o22 hT) (by omega) rfl ?_
        refine G_iinc (ls' := [some (.inr (some 18)), some (.inr (some 13)), some (.inl (c : Int)), some (.inl ((i : Int) + 1))]) dX6_choose_72 (by decide) rfl rfl ?_
        refine G_goto (tgt := 10) dX6_choose_75 (by decide) ?_
        rw [x_ak_s (h := h) (i := i) gx (by omega) (by omega)]
        exact ih (i + 1) (by omega) (by omega)

def x_ch2 (g : HT) (c : Nat) (i : Nat) : HT := hs_ (hf_ g 23 0 i (fun r => ((x_mb (g 22) r c : Nat) : Int))) 18 6 (g 18 3 - x_sA (g 22) c i)
theorem x_ch2_o {g : HT} {c i b j : Nat} (hb : b ≠ 23 ∧ ¬ (b = 18 ∧ j = 6)) : x_ch2 g c i b j = g b j := by
  unfold x_ch2; rw [show ∀ (X : HT) v, hs_ X 18 6 v b j = X b j from fun X v => if_neg hb.2, hf_na hb.1]
theorem x_ch2_s {g : HT} {c i : Nat} : hs_ (hs_ (x_ch2 g c i) 23 i (((x_mb (g 22) i c : Nat) : Int))) 18 6 (g 18 3 - x_sA (g 22) c i - g 22 (8 * i + x_mb (g 22) i c)) = x_ch2 g c (i + 1) := by
  unfold x_ch2
  have e : hs_ (hf_ g 23 0 i (fun r => ((x_mb (g 22) r c : Nat) : Int))) 23 i (((x_mb (g 22) i c : Nat) : Int)) = hf_ g 23 0 (i + 1) (fun r => ((x_mb (g 22) r c : Nat) : Int)) := hf_snoc (Nat.zero_le _) rfl
  rw [← e]
  funext b j
  have e3 : g 18 3 - x_sA (g 22) c (i + 1) = g 18 3 - x_sA (g 22) c i - g 22 (8 * i + x_mb (g 22) i c) := by
    show g 18 3 - (x_sA (g 22) c i + g 22 (8 * i + x_mb (g 22) i c)) = _
    omega
  rw [e3]
  unfold hs_
  by_cases z : b = 18 ∧ j = 6
  · rw [if_pos z, if_pos z]
  · rw [if_neg z, if_neg z, if_neg z]
theorem x_choose_L2 (d : Nat) (τ : TT) (hT : TK τ) (g : HT) (c N : Nat) (hN : g 13 0 = N ∧ N ≤ 9) (hc4 : 1 ≤ c ∧ c ≤ 4) (h22 : ∀ k : Nat, k < 72 → 0 ≤ g 22 k ∧ g 22 k ≤ 100) : ∀ (n_ : Nat) (i : Nat), N - i < n_ → i ≤ N → G_ mX6_choose (d + 1) 0 0 88 [some (.inr (some 18)), some (.inr (some 13)), some (.inl (c : Int)), some (.inl (i : Int))] [] τ (x_ch2 g c i) (Zv τ fun h' => h' = x_ch2 g c N) := by
  intro n_
  induction n_ with
  | zero => intro i hm_; exact absurd hm_ (Nat.not_lt_zero _)
  | succ n_ ih =>
    intro i hm_ hi
    have e22 : x_ch2 g c i 22 = g 22 := funext fun k => x_ch2_o ⟨by decide, fun q => absurd q.1 (by decide)⟩
    have hmb := x_mb_r (A := g 22) (r := i) c (by omega)
    refine G_iload_n (i := 3) dX6_choose_88 rfl rfl ?_
    refine G_aload_n (i := 1) dX6_choose_89 rfl rfl ?_
    refine G_getI (v := (N : Int)) fX6_53 rfl dX6_choose_90 (o13 hT) (((x_ch2_o (by decide)).trans hN.1)) ?_
    refine G_icmp_ge (tgt := 139) dX6_choose_93 (by decide) (by omega) (by omega) (fun c_1 => ?_) (fun c_1 => ?_)
    · refine G_vretZ rfl dX6_choose_139 ?_
      obtain rfl : i = N := by omega
      rfl
    · refine G_aload_n (i := 0) dX6_choose_96 rfl rfl ?_
      refine G_getR fX6_28 rfl dX6_choose_97 (o18 hT) (r18_5 hT) ?_
      refine G_iload_n (i := 3) dX6_choose_100 rfl rfl ?_
      refine G_aload_n (i := 0) dX6_choose_101 rfl rfl ?_
      refine G_iload_n (i := 3) dX6_choose_102 rfl rfl ?_
      refine G_iload_n (i := 2) dX6_choose_103 rfl rfl ?_
      refine G_cVi (as := [.inl (i : Int), .inl (c : Int)]) qX6_56 (x_mostAsked d τ (x_ch2 g c i) hT i c (by omega) hc4 (fun k hk => by rw [e22]; exact h22 k hk)) rfl rfl (Nat.le_of_ble_eq_true rfl) (o18 hT) dX6_choose_104 (fun v' h' e' => ?_)
      obtain ⟨rfl, rfl⟩ := e'
      rw [show x_ch2 g c i 22 = g 22 from e22]
      refine G_iastk i dX6_choose_107 (o23 hT) (by omega) rfl ?_
      refine G_aload_n (i := 0) dX6_choose_108 rfl rfl ?_
      refine G_dup dX6_choose_109 ?_
      refine G_getI (v := g 18 3 - x_sA (g 22) c i) fX6_31 rfl dX6_choose_110 (o18 hT) ((hs_na (by decide)).trans (hs_eq)) ?_
      refine G_aload_n (i := 0) dX6_choose_113 rfl rfl ?_
      refine G_getR fX6_25 rfl dX6_choose_114 (o18 hT) (r18_4 hT) ?_
      refine G_bipush dX6_choose_117 (by decide) ?_
      refine G_iload_n (i := 3) dX6_choose_119 rfl rfl ?_
      refine G_imul dX6_choose_120 ?_
      refine G_aload_n (i := 0) dX6_choose_121 rfl rfl ?_
      refine G_getR fX6_28 rfl dX6_choose_122 (o18 hT) (r18_5 hT) ?_
      refine G_iload_n (i := 3) dX6_choose_125 rfl rfl ?_
      refine G_iald (v := ((x_mb (g 22) i c) : Int)) dX6_choose_126 (o23 hT) (by omega) (hs_eq) ?_
      refine G_iadd dX6_choose_127 ?_
      refine G_iald (v := g 22 (((8 * (i : Int)) + ((x_mb (g 22) i c) : Int)).toNat)) dX6_choose_128 (o22 hT) (by omega) ((hs_na (by decide)).trans (congrFun e22 _)) ?_
      refine G_isub dX6_choose_129 ?_
      refine G_putI fX6_31 dX6_choose_130 (o18 hT) ?_
      refine G_iinc (ls' := [some (.inr (some 18)), some (.inr (some 13)), some (.inl (c : Int)), some (.inl ((i : Int) + 1))]) dX6_choose_133 (by decide) rfl rfl ?_
      refine G_goto (tgt := 88) dX6_choose_136 (by decide) ?_
      rw [show (8 * (i : Int) + ((x_mb (g 22) i c : Nat) : Int)).toNat = 8 * i + x_mb (g 22) i c by omega, x_ch2_s]
      exact ih (i + 1) (by omega) (by omega)

def FRpc (h h' : HT) : Prop := ∀ b j : Nat, b ≠ 22 → b ≠ 23 → ¬ (b = 18 ∧ j = 6) → h' b j = h b j
theorem x_mb_c {A B : Nat → Int} {r : Nat} (e : ∀ k : Nat, k < 8 → A (8 * r + k) = B (8 * r + k)) : ∀ c : Nat, c ≤ 8 → x_mb A r c = x_mb B r c
  | 0, _ => rfl
  | k + 1, h => by
    have ih := x_mb_c e k (by omega)
    show (if A (8 * r + x_mb A r k) < A (8 * r + k) then k else x_mb A r k) = (if B (8 * r + x_mb B r k) < B (8 * r + k) then k else x_mb B r k)
    have hb : x_mb B r k < 8 := by
      by_cases z : k = 0
      · subst z; show (0 : Nat) < 8; omega
      · have := x_mb_r (A := B) (r := r) k (by omega); omega
    rw [ih, e k (by omega), e _ hb]
theorem x_sA_c {A B : Nat → Int} {c n : Nat} (e : ∀ q : Nat, q < n → ∀ k : Nat, k < 8 → A (8 * q + k) = B (8 * q + k)) (hc : 1 ≤ c ∧ c ≤ 4) : ∀ r : Nat, r ≤ n → r ≤ 9 → x_sA A c r = x_sA B c r
  | 0, _, _ => rfl
  | r + 1, h, h9 => by
    show x_sA A c r + A (8 * r + x_mb A r c) = x_sA B c r + B (8 * r + x_mb B r c)
    have := x_mb_r (A := B) (r := r) c (by omega)
    rw [x_sA_c e hc r (by omega) (by omega), x_mb_c (e r (by omega)) c (by omega), e r (by omega) _ (by omega)]
theorem x_choose (d : Nat) (τ : TT) (h : HT) (hT : TK τ) (hrr : 0 ≤ h 13 1 ∧ h 13 1 ≤ 100) (hn : 0 ≤ h 13 0 ∧ h 13 0 ≤ 9) (tk : x_topok h) (hc : 0 ≤ h 18 3 ∧ h 18 3 ≤ 40) (h9 : ∀ k : Nat, k < 40 → (0 ≤ h 19 k ∧ h 19 k ≤ 99) ∧ (0 ≤ h 20 k ∧ h 20 k ≤ 8) ∧ (0 ≤ h 21 k ∧ h 21 k ≤ 7)) (c N : Nat) (hN : h 13 0 = N) (hc4 : 1 ≤ c ∧ c ≤ 4) (A : Nat → Int) (hA : x_cnt h (h 18 3).toNat = A) : S_ mX6_choose (d + 1) 0 0 [.inr (some 18), .inr (some 13), .inl (c : Int)] τ h (Zv τ fun h' => (h' 18 6 = h 18 3 - x_sA A c N ∧ (∀ r : Nat, r < N → h' 23 r = ((x_mb A r c : Nat) : Int))) ∧ FRpc h h') := by
  refine S_go (k := 1) (ls := [some (.inr (some 18)), some (.inr (some 13)), some (.inl (c : Int)), none]) (by decide) rfl (Nat.le_of_ble_eq_true rfl) rfl ?_
  refine G_aload_n (i := 0) dX6_choose_0 rfl rfl ?_
  refine G_getR fX6_25 rfl dX6_choose_1 (o18 hT) (r18_4 hT) ?_
  refine G_iconst dX6_choose_4 ?_
  refine G_cSv (as := [.inr (some 22), .inl 0]) qX6_44 (j_fill d τ h 22 72 (o22 hT) 0) rfl rfl (Nat.le_of_ble_eq_true rfl) dX6_choose_5 (fun h' e' => ?_)
  subst e'
  refine G_iconst dX6_choose_8 ?_
  refine G_istore_n (i := 3) (ls' := [some (.inr (some 18)), some (.inr (some 13)), some (.inl (c : Int)), some (.inl 0)]) dX6_choose_9 rfl (by decide) rfl ?_
  rw [show hf_ h 22 0 72 (fun _ => 0) = hf_ h 22 0 72 (x_cnt h 0) from hf_c fun j _ _ => rfl]
  refine x_choose_L1 d τ h hT hrr hn tk hc h9 c _ ?_ _ 0 (Nat.lt_succ_self _) (by omega)
  refine G_aload_n (i := 0) dX6_choose_78 rfl rfl ?_
  refine G_aload_n (i := 0) dX6_choose_79 rfl rfl ?_
  refine G_getI (v := h 18 3) fX6_21 rfl dX6_choose_80 (o18 hT) (hf_na (by decide)) ?_
  refine G_putI fX6_31 dX6_choose_83 (o18 hT) ?_
  refine G_iconst dX6_choose_86 ?_
  refine G_istore_n (i := 3) (ls' := [some (.inr (some 18)), some (.inr (some 13)), some (.inl (c : Int)), some (.inl 0)]) dX6_choose_87 rfl (by decide) rfl ?_
  have g22 : ∀ k : Nat, k < 72 → (hs_ (hf_ h 22 0 72 (x_cnt h (h 18 3).toNat)) 18 6 (h 18 3)) 22 k = A k := fun k hk => by rw [hs_na (by decide), hf_in ⟨Nat.zero_le _, hk⟩, hA]
  have eA : (hs_ (hf_ h 22 0 72 (x_cnt h (h 18 3).toNat)) 18 6 (h 18 3)) = x_ch2 (hs_ (hf_ h 22 0 72 (x_cnt h (h 18 3).toNat)) 18 6 (h 18 3)) c 0 := by unfold x_ch2; rw [hf_nil]; funext b j; unfold hs_; by_cases z : b = 18 ∧ j = 6; (rw [if_pos z, if_pos z]; show h 18 3 = hs_ _ 18 6 (h 18 3) 18 3 - 0; rw [hs_ni (by decide), hf_na (by decide)]; omega); (simp only [if_neg z])
  have mbA : ∀ r : Nat, r < N → x_mb ((hs_ (hf_ h 22 0 72 (x_cnt h (h 18 3).toNat)) 18 6 (h 18 3)) 22) r c = x_mb A r c := fun r hr => x_mb_c (fun k hk => g22 _ (by omega)) c (by omega)
  have sA : ∀ r : Nat, r ≤ N → x_sA ((hs_ (hf_ h 22 0 72 (x_cnt h (h 18 3).toNat)) 18 6 (h 18 3)) 22) c r = x_sA A c r := fun r hr => x_sA_c (fun q hq k hk => g22 _ (by omega)) hc4 r hr (by omega)
  have := x_choose_L2 d τ hT (hs_ (hf_ h 22 0 72 (x_cnt h (h 18 3).toNat)) 18 6 (h 18 3)) c N ⟨by rw [hs_na (by decide), hf_na (by decide)]; omega, by omega⟩ hc4 (fun k hk => by rw [g22 k hk, ← hA]; have := x_cnt_r h (h 18 3).toNat k; omega) _ 0 (Nat.lt_succ_self _) (Nat.zero_le _)
  rw [← eA] at this
  refine G_mono ?_ this
  rintro r τ' h' ⟨q1, q2, rfl⟩
  refine ⟨q1, q2, ⟨?_, fun r hr => ?_⟩, fun b j b1 b2 b3 => ?_⟩
  · show hs_ _ 18 6 _ 18 6 = _; rw [hs_eq, sA N (Nat.le_refl _), hs_ni (by decide), hf_na (by decide)]
  · unfold x_ch2; rw [hs_na (by decide), hf_in ⟨Nat.zero_le _, hr⟩, mbA r hr]
  · rw [x_ch2_o ⟨b2, b3⟩]; unfold hs_; rw [if_neg b3, hf_na b1]

theorem x_empty (d : Nat) (τ : TT) (h : HT) (a : Nat) (hA : TP τ a) : S_ mX10_empty d 0 0 [.inr (some a)] τ h (Zv τ fun h' => h' = hs_ (hs_ h a 0 (-1)) a 1 0) := by
  refine S_go (k := 0) (ls := [some (.inr (some a))]) (by decide) rfl (Nat.le_of_ble_eq_true rfl) rfl ?_
  refine G_aload_n (i := 0) dX10_empty_0 rfl rfl ?_
  refine G_iconst dX10_empty_1 ?_
  refine G_putI fX10_9 dX10_empty_2 hA.1 ?_
  refine G_aload_n (i := 0) dX10_empty_5 rfl rfl ?_
  refine G_iconst dX10_empty_6 ?_
  refine G_putI fX10_15 dX10_empty_7 hA.1 ?_
  refine G_vretZ rfl dX10_empty_10 ?_
  rfl

theorem x_become (d : Nat) (τ : TT) (h : HT) (a : Nat) (hA : TP τ a) (s n : Int) : S_ mX10_become (d + 1) 0 0 [.inr (some a), .inl s, .inl n] τ h (Zv τ fun h' => h' = hf_ (hs_ (hs_ h a 0 s) a 1 n) (a + 1) 0 60 (fun _ => 0)) := by
  refine S_go (k := 0) (ls := [some (.inr (some a)), some (.inl s), some (.inl n)]) (by decide) rfl (Nat.le_of_ble_eq_true rfl) rfl ?_
  refine G_aload_n (i := 0) dX10_become_0 rfl rfl ?_
  refine G_iload_n (i := 1) dX10_become_1 rfl rfl ?_
  refine G_putI fX10_9 dX10_become_2 hA.1 ?_
  refine G_aload_n (i := 0) dX10_become_5 rfl rfl ?_
  refine G_iload_n (i := 2) dX10_become_6 rfl rfl ?_
  refine G_putI fX10_15 dX10_become_7 hA.1 ?_
  refine G_aload_n (i := 0) dX10_become_10 rfl rfl ?_
  refine G_getR fX10_18 rfl dX10_become_11 hA.1 hA.2.2 ?_
  refine G_iconst dX10_become_14 ?_
  refine G_cSv (as := [.inr (some (a + 1)), .inl 0]) qX10_22 (j_fill d τ (hs_ (hs_ h a 0 s) a 1 n) (a + 1) 60 hA.2.1 0) rfl rfl (Nat.le_of_ble_eq_true rfl) dX10_become_15 (fun h' e' => ?_)
  subst e'
  refine G_vretZ rfl dX10_become_18 ?_
  rfl

def x_cut (s v : Int) : Int := if s = 0 then b_i2b v else if s = 1 then b_i2s v else if s = 3 then (if v = 0 then 0 else 1) else if s = 4 then b_i2c v else v
theorem b_i2c_e (v : Int) : b_i2c v = b_and v 65535 := by
  unfold b_i2c b_and
  congr 1
  rw [← Int32.toBitVec_inj]
  show ((Int32.ofInt v).toUInt32 % 65536).toInt32.toBitVec = (Int32.ofInt v).toBitVec &&& (Int32.ofInt 65535).toBitVec
  generalize (Int32.ofInt v) = x
  show (x.toBitVec % 65536#32) = x.toBitVec &&& (65535#32)
  apply BitVec.eq_of_toNat_eq
  rw [BitVec.toNat_umod, BitVec.toNat_and]
  show x.toBitVec.toNat % 65536 = x.toBitVec.toNat &&& 65535
  exact (Nat.and_two_pow_sub_one_eq_mod x.toBitVec.toNat 16).symm
theorem x_cut_e {s v : Int} : x_cut s v = f_nar s v := by
  unfold x_cut f_nar
  by_cases z : v = 0 <;> simp [z, b_i2c_e]
theorem x_cutM (d : Nat) (τ : TT) (h : HT) (a : Nat) (hA : TP τ a) (v : Int) (r_v : -2147483648 ≤ v ∧ v ≤ 2147483647) (hs : -1 ≤ h a 0 ∧ h a 0 ≤ 4) : S_ mX10_cut d 0 0 [.inr (some a), .inl v] τ h (Zi τ fun r h' => r = x_cut (h a 0) v ∧ h' = h) := by
  refine S_go (k := 0) (ls := [some (.inr (some a)), some (.inl v)]) (by decide) rfl (Nat.le_of_ble_eq_true rfl) rfl ?_
  refine G_aload_n (i := 0) dX10_cut_0 rfl rfl ?_
  refine G_getI (v := h a 0) fX10_9 rfl dX10_cut_1 hA.1 rfl ?_
  by_cases hsw : 0 ≤ (h a 0) ∧ (h a 0) ≤ 4
  · have hsx : (h a 0) = 0 ∨ (h a 0) = 1 ∨ (h a 0) = 2 ∨ (h a 0) = 3 ∨ (h a 0) = 4 := by omega
    rcases hsx with hsx | hsx | hsx | hsx | hsx
    · rw [hsx]
      refine G_tswIn (off := 36) (tgt := 40) dX10_cut_4 (by decide) (by decide) rfl (by decide) ?_
      refine G_iload_n (i := 1) dX10_cut_40 rfl rfl ?_
      refine G_i2b dX10_cut_41 ?_
      refine G_iretZ rfl dX10_cut_42 ?_
      exact ⟨by unfold x_cut; (repeat (first | rw [if_pos (by omega)] | rw [if_neg (by omega)])), rfl⟩
    · rw [hsx]
      refine G_tswIn (off := 39) (tgt := 43) dX10_cut_4 (by decide) (by decide) rfl (by decide) ?_
      refine G_iload_n (i := 1) dX10_cut_43 rfl rfl ?_
      refine G_i2s dX10_cut_44 ?_
      refine G_iretZ rfl dX10_cut_45 ?_
      exact ⟨by unfold x_cut; (repeat (first | rw [if_pos (by omega)] | rw [if_neg (by omega)])), rfl⟩
    · rw [hsx]
      refine G_tswIn (off := 55) (tgt := 59) dX10_cut_4 (by decide) (by decide) rfl (by decide) ?_
      refine G_iload_n (i := 1) dX10_cut_59 rfl rfl ?_
      refine G_iretZ rfl dX10_cut_60 ?_
      exact ⟨by unfold x_cut; (repeat (first | rw [if_pos (by omega)] | rw [if_neg (by omega)])), rfl⟩
    · rw [hsx]
      refine G_tswIn (off := 42) (tgt := 46) dX10_cut_4 (by decide) (by decide) rfl (by decide) ?_
      refine G_iload_n (i := 1) dX10_cut_46 rfl rfl ?_
      refine G_if_eq (tgt := 54) dX10_cut_47 (by decide) (by omega) (fun c_1 => ?_) (fun c_1 => ?_)
      · refine G_iconst dX10_cut_54 ?_
        refine G_iretZ rfl dX10_cut_55 ?_
        exact ⟨by unfold x_cut; (repeat (first | rw [if_pos (by omega)] | rw [if_neg (by omega)])), rfl⟩
      · refine G_iconst dX10_cut_50 ?_
        refine G_goto (tgt := 55) dX10_cut_51 (by decide) ?_
        refine G_iretZ rfl dX10_cut_55 ?_
        exact ⟨by unfold x_cut; (repeat (first | rw [if_pos (by omega)] | rw [if_neg (by omega)])), rfl⟩
    · rw [hsx]
      refine G_tswIn (off := 52) (tgt := 56) dX10_cut_4 (by decide) (by decide) rfl (by decide) ?_
      refine G_iload_n (i := 1) dX10_cut_56 rfl rfl ?_
      refine G_i2c dX10_cut_57 ?_
      refine G_iretZ rfl dX10_cut_58 ?_
      exact ⟨by unfold x_cut; (repeat (first | rw [if_pos (by omega)] | rw [if_neg (by omega)])), rfl⟩
  · refine G_tswOut (tgt := 59) dX10_cut_4 (by omega) (by omega) (by decide) ?_
    refine G_iload_n (i := 1) dX10_cut_59 rfl rfl ?_
    refine G_iretZ rfl dX10_cut_60 ?_
    exact ⟨by unfold x_cut; (repeat (first | rw [if_pos (by omega)] | rw [if_neg (by omega)])), rfl⟩

theorem x_holds (d : Nat) (τ : TT) (h : HT) (a : Nat) (hA : TP τ a) (i n : Int) (r_i : -2147483648 ≤ i ∧ i ≤ 2147483647) (r_n : -2147483648 ≤ n ∧ n ≤ 2147483647) (hl : 0 ≤ h a 1 ∧ h a 1 ≤ 60) : S_ mX10_holds d 0 0 [.inr (some a), .inl i, .inl n] τ h (Zi τ fun r h' => r = (if 0 ≤ n ∧ 0 ≤ i ∧ n ≤ h a 1 ∧ i ≤ h a 1 - n then 1 else 0) ∧ h' = h) := by
  refine S_go (k := 0) (ls := [some (.inr (some a)), some (.inl i), some (.inl n)]) (by decide) rfl (Nat.le_of_ble_eq_true rfl) rfl ?_
  refine G_iload_n (i := 2) dX10_holds_0 rfl rfl ?_
  refine G_if_lt (tgt := 30) dX10_holds_1 (by decide) (by omega) (fun c_1 => ?_) (fun c_1 => ?_)
  · refine G_iconst dX10_holds_30 ?_
    refine G_zretZ rfl (by decide) dX10_holds_31 ?_
    exact ⟨by first | rw [if_pos (by omega)] | rw [if_neg (by omega)], rfl⟩
  · refine G_iload_n (i := 1) dX10_holds_4 rfl rfl ?_
    refine G_if_lt (tgt := 30) dX10_holds_5 (by decide) (by omega) (fun c_2 => ?_) (fun c_2 => ?_)
    · refine G_iconst dX10_holds_30 ?_
      refine G_zretZ rfl (by decide) dX10_holds_31 ?_
      exact ⟨by first | rw [if_pos (by omega)] | rw [if_neg (by omega)], rfl⟩
    · refine G_iload_n (i := 2) dX10_holds_8 rfl rfl ?_
      refine G_aload_n (i := 0) dX10_holds_9 rfl rfl ?_
      refine G_getI (v := h a 1) fX10_15 rfl dX10_holds_10 hA.1 rfl ?_
      refine G_icmp_gt (tgt := 30) dX10_holds_13 (by decide) (by omega) (by omega) (fun c_3 => ?_) (fun c_3 => ?_)
      · refine G_iconst dX10_holds_30 ?_
        refine G_zretZ rfl (by decide) dX10_holds_31 ?_
        exact ⟨by first | rw [if_pos (by omega)] | rw [if_neg (by omega)], rfl⟩
      · refine G_iload_n (i := 1) dX10_holds_16 rfl rfl ?_
        refine G_aload_n (i := 0) dX10_holds_17 rfl rfl ?_
        refine G_getI (v := h a 1) fX10_15 rfl dX10_holds_18 hA.1 rfl ?_
        refine G_iload_n (i := 2) dX10_holds_21 rfl rfl ?_
        refine G_isub dX10_holds_22 ?_
        refine G_icmp_gt (tgt := 30) dX10_holds_23 (by decide) (by omega) (by omega) (fun c_4 => ?_) (fun c_4 => ?_)
        · refine G_iconst dX10_holds_30 ?_
          refine G_zretZ rfl (by decide) dX10_holds_31 ?_
          exact ⟨by first | rw [if_pos (by omega)] | rw [if_neg (by omega)], rfl⟩
        · refine G_iconst dX10_holds_26 ?_
          refine G_goto (tgt := 31) dX10_holds_27 (by decide) ?_
          refine G_zretZ rfl (by decide) dX10_holds_31 ?_
          exact ⟨by first | rw [if_pos (by omega)] | rw [if_neg (by omega)], rfl⟩

