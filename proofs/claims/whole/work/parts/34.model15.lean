/-! the reference: orders -/
theorem m_rank_I (d : Nat) (τ : TT) (h : HT) (hT : TK τ) (Z : ZT) (n : Nat) (hn : h 81 1 = n ∧ 3 ≤ n ∧ n ≤ 7) (a : Nat) (hA : ar_ τ a 13 7) (hP : isP n (h a)) (v : Int) (p : Nat) (hp : p < n) (K : G_ mX12_rank d 0 0 55 [some (.inr (some 81)), some (.inr (some a)), some (.inl v), some (.inl (p : Int)), some (.inl ((f_less n (h a) p) : Int)), none] [] τ h (Z)) : ∀ (n_ : Nat) (l : Nat) (q : Nat), n - q < n_ → q ≤ n → p < q → l + c_lt (h a) (h a p) (p + 1) = c_lt (h a) (h a p) q → G_ mX12_rank d 0 0 20 [some (.inr (some 81)), some (.inr (some a)), some (.inl v), some (.inl (p : Int)), some (.inl (l : Int)), some (.inl (q : Int))] [] τ h (Z) := by
  intro n_
  induction n_ with
  | zero => intro l q hm_; exact absurd hm_ (Nat.not_lt_zero _)
  | succ n_ ih =>
    intro l q hm_ hq hpq hl
    refine G_iload dX12_rank_20 rfl ?_
    refine G_aload_n (i := 0) dX12_rank_22 rfl rfl ?_
    refine G_getI (v := h 81 1) fX12_13 rfl dX12_rank_23 (o81 hT) rfl ?_
    refine G_icmp_ge (tgt := 55) dX12_rank_26 (by decide) (by omega) (by omega) (fun c_1 => ?_) (fun c_1 => ?_)
    · refine G_lsub (ls' := [some (.inr (some 81)), some (.inr (some a)), some (.inl v), some (.inl (p : Int)), some (.inl (l : Int)), none]) (LS_same (LS_same (LS_same (LS_same (LS_same (LS_none LS_nil)))))) ?_
      obtain rfl : q = n := by omega
      have e : l = f_less q (h a) p := by unfold f_less; omega
      subst e
      exact K
    · refine G_iload dX12_rank_29 rfl ?_
      refine G_aload_n (i := 1) dX12_rank_31 rfl rfl ?_
      refine G_iload dX12_rank_32 rfl ?_
      refine G_iald (v := h a q) dX12_rank_34 hA (by omega) rfl ?_
      have o34 := hP.1 q (by omega)
      refine G_aload_n (i := 1) dX12_rank_35 rfl rfl ?_
      refine G_iload_n (i := 3) dX12_rank_36 rfl rfl ?_
      refine G_iald (v := h a p) dX12_rank_37 hA (by omega) rfl ?_
      have o37 := hP.1 p (by omega)
      refine G_icmp_ge (tgt := 45) dX12_rank_38 (by decide) (by omega) (by omega) (fun c_2 => ?_) (fun c_2 => ?_)
      · refine G_iconst dX12_rank_45 ?_
        refine G_iadd dX12_rank_46 ?_
        refine G_istore (ls' := [some (.inr (some 81)), some (.inr (some a)), some (.inl v), some (.inl (p : Int)), some (.inl ((l : Int) + 0)), some (.inl (q : Int))]) dX12_rank_47 (by decide) rfl ?_
        refine G_iinc (ls' := [some (.inr (some 81)), some (.inr (some a)), some (.inl v), some (.inl (p : Int)), some (.inl ((l : Int) + 0)), some (.inl ((q : Int) + 1))]) dX12_rank_49 (by decide) rfl rfl ?_
        refine G_goto (tgt := 20) dX12_rank_52 (by decide) ?_
        have e : c_lt (h a) (h a p) (q + 1) = c_lt (h a) (h a p) q + (if h a q < h a p then 1 else 0) := rfl
        rw [if_neg (by omega)] at e
        rw [Int.add_zero]
        exact ih l (q + 1) (by omega) (by omega) (by omega) (by omega)
      · refine G_iconst dX12_rank_41 ?_
        refine G_goto (tgt := 46) dX12_rank_42 (by decide) ?_
        refine G_iadd dX12_rank_46 ?_
        refine G_istore (ls' := [some (.inr (some 81)), some (.inr (some a)), some (.inl v), some (.inl (p : Int)), some (.inl ((l : Int) + 1)), some (.inl (q : Int))]) dX12_rank_47 (by decide) rfl ?_
        refine G_iinc (ls' := [some (.inr (some 81)), some (.inr (some a)), some (.inl v), some (.inl (p : Int)), some (.inl ((l : Int) + 1)), some (.inl ((q : Int) + 1))]) dX12_rank_49 (by decide) rfl rfl ?_
        refine G_goto (tgt := 20) dX12_rank_52 (by decide) ?_
        have e : c_lt (h a) (h a p) (q + 1) = c_lt (h a) (h a p) q + (if h a q < h a p then 1 else 0) := rfl
        rw [if_pos (by omega)] at e
        exact ih (l + 1) (q + 1) (by omega) (by omega) (by omega) (by omega)

theorem m_rank_L (d : Nat) (τ : TT) (h : HT) (hT : TK τ) (n : Nat) (hn : h 81 1 = n ∧ 3 ≤ n ∧ n ≤ 7) (a : Nat) (hA : ar_ τ a 13 7) (hP : isP n (h a)) : ∀ (n_ : Nat) (p : Nat), n - p < n_ → p ≤ n → G_ mX12_rank d 0 0 4 [some (.inr (some 81)), some (.inr (some a)), some (.inl ((f_rk n (h a) p) : Int)), some (.inl (p : Int)), none, none] [] τ h (Zi τ fun v h' => v = (rk_ n (h a) : Nat) ∧ h' = h) := by
  intro n_
  induction n_ with
  | zero => intro p hm_; exact absurd hm_ (Nat.not_lt_zero _)
  | succ n_ ih =>
    intro p hm_ hp
    refine G_iload_n (i := 3) dX12_rank_4 rfl rfl ?_
    refine G_aload_n (i := 0) dX12_rank_5 rfl rfl ?_
    refine G_getI (v := h 81 1) fX12_13 rfl dX12_rank_6 (o81 hT) rfl ?_
    refine G_icmp_ge (tgt := 73) dX12_rank_9 (by decide) (by omega) (by omega) (fun c_1 => ?_) (fun c_1 => ?_)
    · refine G_iload_n (i := 2) dX12_rank_73 rfl rfl ?_
      refine G_iretZ rfl dX12_rank_74 ?_
      obtain rfl : p = n := by omega
      exact ⟨rfl, rfl⟩
    · refine G_iconst dX12_rank_12 ?_
      refine G_istore (ls' := [some (.inr (some 81)), some (.inr (some a)), some (.inl ((f_rk n (h a) p) : Int)), some (.inl (p : Int)), some (.inl 0), none]) dX12_rank_13 (by decide) rfl ?_
      refine G_iload_n (i := 3) dX12_rank_15 rfl rfl ?_
      refine G_iconst dX12_rank_16 ?_
      refine G_iadd dX12_rank_17 ?_
      refine G_istore (ls' := [some (.inr (some 81)), some (.inr (some a)), some (.inl ((f_rk n (h a) p) : Int)), some (.inl (p : Int)), some (.inl 0), some (.inl ((p : Int) + 1))]) dX12_rank_18 (by decide) rfl ?_
      suffices K : G_ mX12_rank d 0 0 55 [some (.inr (some 81)), some (.inr (some a)), some (.inl ((f_rk n (h a) p) : Int)), some (.inl (p : Int)), some (.inl ((f_less n (h a) p) : Int)), none] [] τ h (Zi τ fun v h' => v = (rk_ n (h a) : Nat) ∧ h' = h) by
        exact m_rank_I d τ h hT _ n hn a hA hP _ p (by omega) K _ 0 (p + 1) (Nat.lt_succ_self _) (by omega) (by omega) (Nat.zero_add _)
      refine G_iload_n (i := 2) dX12_rank_55 rfl rfl ?_
      refine G_aload_n (i := 0) dX12_rank_56 rfl rfl ?_
      refine G_getI (v := h 81 1) fX12_13 rfl dX12_rank_57 (o81 hT) rfl ?_
      refine G_iload_n (i := 3) dX12_rank_60 rfl rfl ?_
      refine G_isub dX12_rank_61 ?_
      refine G_imul dX12_rank_62 ?_
      refine G_iload dX12_rank_63 rfl ?_
      refine G_iadd dX12_rank_65 ?_
      refine G_istore_n (i := 2) (ls' := [some (.inr (some 81)), some (.inr (some a)), some (.inl ((((f_rk n (h a) p) : Int) * ((h 81 1) - (p : Int))) + ((f_less n (h a) p) : Int))), some (.inl (p : Int)), some (.inl ((f_less n (h a) p) : Int)), none]) dX12_rank_66 rfl (by decide) rfl ?_
      refine G_iinc (ls' := [some (.inr (some 81)), some (.inr (some a)), some (.inl ((((f_rk n (h a) p) : Int) * ((h 81 1) - (p : Int))) + ((f_less n (h a) p) : Int))), some (.inl ((p : Int) + 1)), some (.inl ((f_less n (h a) p) : Int)), none]) dX12_rank_67 (by decide) rfl rfl ?_
      refine G_goto (tgt := 4) dX12_rank_70 (by decide) ?_
      refine G_lsub (ls' := [some (.inr (some 81)), some (.inr (some a)), some (.inl ((((f_rk n (h a) p) : Int) * ((h 81 1) - (p : Int))) + ((f_less n (h a) p) : Int))), some (.inl ((p : Int) + 1)), none, none]) (LS_same (LS_same (LS_same (LS_same (LS_none (LS_none LS_nil)))))) ?_
      have e : (f_rk n (h a) p : Int) * (h 81 1 - (p : Int)) + (f_less n (h a) p : Int) = ((f_rk n (h a) (p + 1) : Nat) : Int) := by
        show _ = ((f_rk n (h a) p * (n - p) + f_less n (h a) p : Nat) : Int)
        rw [hn.1, Int.natCast_add, Int.natCast_mul, show (n : Int) - (p : Int) = ((n - p : Nat) : Int) by omega]
      rw [e]
      exact ih (p + 1) (by omega) (by omega)

theorem m_rank (d : Nat) (τ : TT) (h : HT) (hT : TK τ) (n : Nat) (hn : h 81 1 = n ∧ 3 ≤ n ∧ n ≤ 7) (a : Nat) (hA : ar_ τ a 13 7) (hP : isP n (h a)) : S_ mX12_rank d 0 0 [.inr (some 81), .inr (some a)] τ h (Zi τ fun v h' => v = (rk_ n (h a) : Nat) ∧ h' = h) := by
  refine S_go (k := 4) (ls := [some (.inr (some 81)), some (.inr (some a)), none, none, none, none]) (by decide) rfl (Nat.le_of_ble_eq_true rfl) rfl ?_
  refine G_iconst dX12_rank_0 ?_
  refine G_istore_n (i := 2) (ls' := [some (.inr (some 81)), some (.inr (some a)), some (.inl 0), none, none, none]) dX12_rank_1 rfl (by decide) rfl ?_
  refine G_iconst dX12_rank_2 ?_
  refine G_istore_n (i := 3) (ls' := [some (.inr (some 81)), some (.inr (some a)), some (.inl 0), some (.inl 0), none, none]) dX12_rank_3 rfl (by decide) rfl ?_
  exact m_rank_L d τ h hT n hn a hA hP _ 0 (Nat.lt_succ_self _) (Nat.zero_le _)

theorem f_aft_n {n p : Nat} (hp : p < n) : f_aft (n : Int) (p : Int) = ((if p + 1 = n then 0 else p + 1 : Nat) : Int) := by
  unfold f_aft; split <;> split <;> omega
theorem f_sw_h {h : HT} {a n p : Nat} (hp : p < n) (hn : 2 ≤ n) : hs_ (hs_ h a p (h a (if p + 1 = n then 0 else p + 1))) a (if p + 1 = n then 0 else p + 1) (h a p) = hf_ h a 0 n (f_sw n (h a) p) := by
  have ha : (if p + 1 = n then 0 else p + 1) < n := by split <;> omega
  have hb : (if p + 1 = n then 0 else p + 1) ≠ p := by split <;> omega
  funext b j
  unfold f_sw
  generalize (if p + 1 = n then 0 else p + 1) = q at *
  grind [hs_, hf_]
theorem m_swap (d : Nat) (τ : TT) (h : HT) (hT : TK τ) (n : Nat) (hn : h 81 1 = n ∧ 3 ≤ n ∧ n ≤ 7) (a : Nat) (hA : ar_ τ a 13 7) (p : Nat) (hp : p < n) (ha : a ≠ 81) : S_ mX12_swap (d + 1) 0 0 [.inr (some 81), .inr (some a), .inl (p : Int)] τ h (Zv τ fun h' => h' = hf_ h a 0 n (f_sw n (h a) p)) := by
  refine S_go (k := 1) (ls := [some (.inr (some 81)), some (.inr (some a)), some (.inl (p : Int)), none]) (by decide) rfl (Nat.le_of_ble_eq_true rfl) rfl ?_
  refine G_aload_n (i := 1) dX12_swap_0 rfl rfl ?_
  refine G_iload_n (i := 2) dX12_swap_1 rfl rfl ?_
  refine G_iald (v := h a p) dX12_swap_2 hA (by omega) rfl ?_
  refine G_istore_n (i := 3) (ls' := [some (.inr (some 81)), some (.inr (some a)), some (.inl (p : Int)), some (.inl (h a p))]) dX12_swap_3 rfl (by decide) rfl ?_
  refine G_aload_n (i := 1) dX12_swap_4 rfl rfl ?_
  refine G_iload_n (i := 2) dX12_swap_5 rfl rfl ?_
  refine G_aload_n (i := 1) dX12_swap_6 rfl rfl ?_
  refine G_aload_n (i := 0) dX12_swap_7 rfl rfl ?_
  refine G_iload_n (i := 2) dX12_swap_8 rfl rfl ?_
  refine G_cVq (as := [.inl (p : Int)]) qX12_207 (m_after d τ h hT (p : Int) (by first | omega | grind [hs_, hf_]) (by first | omega | grind [hs_, hf_])) rfl rfl (Nat.le_of_ble_eq_true rfl) (o81 hT) dX12_swap_9 ?_
  have ea : (f_aft (h 81 1) (p : Int)) = ((if p + 1 = n then 0 else p + 1 : Nat) : Int) := by rw [hn.1]; exact f_aft_n hp
  have hq : (if p + 1 = n then 0 else p + 1 : Nat) < n := by split <;> omega
  refine G_iald (v := h a ((f_aft (h 81 1) (p : Int)).toNat)) dX12_swap_12 hA (by omega) rfl ?_
  refine G_iastk p dX12_swap_13 hA (by omega) rfl ?_
  refine G_aload_n (i := 1) dX12_swap_14 rfl rfl ?_
  refine G_aload_n (i := 0) dX12_swap_15 rfl rfl ?_
  refine G_iload_n (i := 2) dX12_swap_16 rfl rfl ?_
  refine G_cVq (as := [.inl (p : Int)]) qX12_207 (m_after d τ (hs_ h a p (h a ((f_aft (h 81 1) (p : Int)).toNat))) hT (p : Int) (by first | omega | grind [hs_, hf_]) (by first | omega | grind [hs_, hf_])) rfl rfl (Nat.le_of_ble_eq_true rfl) (o81 hT) dX12_swap_17 ?_
  rw [show (hs_ h a p (h a ((f_aft (h 81 1) (p : Int)).toNat))) 81 1 = h 81 1 from hs_na (by omega)]
  refine G_iload_n (i := 3) dX12_swap_20 rfl rfl ?_
  refine G_iastk ((f_aft (h 81 1) (p : Int)).toNat) dX12_swap_21 hA (by omega) rfl ?_
  refine G_vretZ rfl dX12_swap_22 ?_
  rw [ea, Int.toNat_natCast]
  exact f_sw_h hp (by omega)

theorem u_bit : ∀ u : Nat, u < 128 → ∀ k : Nat, k < 8 → b_and (b_shr (u : Int) (k : Int)) 1 = if u.testBit k then 1 else 0 := by decide +kernel
theorem u_or : ∀ u : Nat, u < 128 → ∀ k : Nat, k < 7 → b_or (u : Int) (b_shl 1 (k : Int)) = ((u ||| 2 ^ k : Nat) : Int) ∧ u ||| 2 ^ k < 128 := by decide +kernel
theorem u_set {u k j : Nat} : (u ||| 2 ^ k).testBit j = (u.testBit j || decide (k = j)) := by
  rw [Nat.testBit_or, Nat.testBit_two_pow]
theorem f_lf_le (n v : Nat) : ∀ i : Nat, f_lf n v i ≤ v
  | 0 => Nat.le_refl _
  | i + 1 => Nat.le_trans (Nat.div_le_self _ _) (f_lf_le n v i)
theorem m_unr_D (d : Nat) (τ : TT) (h : HT) (hT : TK τ) (Z : ZT) (n : Nat) (hn : h 81 1 = n ∧ 3 ≤ n ∧ n ≤ 7) (a : Nat) (hA : ar_ τ a 13 7) (v : Nat) (hv : v ≤ 10000) (K : G_ mX12_unrank d 0 0 47 [some (.inr (some 81)), some (.inl (v : Int)), some (.inr (some a)), none, none, none, none, none] [] τ (hf_ h 117 0 n (fun p => (f_dgt n v p : Nat))) (Z)) : ∀ (n_ : Nat) (i : Nat), n - i < n_ → i ≤ n → G_ mX12_unrank d 0 0 10 [some (.inr (some 81)), some (.inl (v : Int)), some (.inr (some a)), some (.inl ((f_lf n v i) : Int)), some (.inl ((n : Int) - 1 - i)), none, none, none] [] τ (hf_ h 117 (n - i) n (fun p => (f_dgt n v p : Nat))) (Z) := by
  intro n_
  induction n_ with
  | zero => intro i hm_; exact absurd hm_ (Nat.not_lt_zero _)
  | succ n_ ih =>
    intro i hm_ hi
    have hl := f_lf_le n v i
    refine G_iload dX12_unrank_10 rfl ?_
    refine G_if_lt (tgt := 47) dX12_unrank_12 (by decide) (by omega) (fun c_1 => ?_) (fun c_1 => ?_)
    · refine G_lsub (ls' := [some (.inr (some 81)), some (.inl (v : Int)), some (.inr (some a)), none, none, none, none, none]) (LS_same (LS_same (LS_same (LS_none (LS_none (LS_none (LS_none (LS_none LS_nil)))))))) ?_
      obtain rfl : i = n := by omega
      rw [Nat.sub_self]
      exact K
    · refine G_aload_n (i := 0) dX12_unrank_15 rfl rfl ?_
      refine G_getR fX12_162 rfl dX12_unrank_16 (o81 hT) (r81_50 hT) ?_
      refine G_iload dX12_unrank_19 rfl ?_
      refine G_iload_n (i := 3) dX12_unrank_21 rfl rfl ?_
      refine G_aload_n (i := 0) dX12_unrank_22 rfl rfl ?_
      refine G_getI (v := h 81 1) fX12_13 rfl dX12_unrank_23 (o81 hT) (hf_na (by decide)) ?_
      refine G_iload dX12_unrank_26 rfl ?_
      refine G_isub dX12_unrank_28 ?_
      refine G_irem dX12_unrank_29 (by omega) (by omega) ?_
      refine G_iastk (((n : Int) - 1 - i).toNat) dX12_unrank_30 (o117 hT) (by omega) rfl ?_
      refine G_iload_n (i := 3) dX12_unrank_31 rfl rfl ?_
      refine G_aload_n (i := 0) dX12_unrank_32 rfl rfl ?_
      refine G_getI (v := h 81 1) fX12_13 rfl dX12_unrank_33 (o81 hT) ((hs_na (by decide)).trans (hf_na (by decide))) ?_
      refine G_iload dX12_unrank_36 rfl ?_
      refine G_isub dX12_unrank_38 ?_
      refine G_idiv dX12_unrank_39 (by omega) (by omega) ?_
      refine G_istore_n (i := 3) (ls' := [some (.inr (some 81)), some (.inl (v : Int)), some (.inr (some a)), some (.inl (((f_lf n v i) : Int).tdiv ((h 81 1) - ((n : Int) - 1 - i)))), some (.inl ((n : Int) - 1 - i)), none, none, none]) dX12_unrank_40 rfl (by decide) rfl ?_
      refine G_iinc (ls' := [some (.inr (some 81)), some (.inl (v : Int)), some (.inr (some a)), some (.inl (((f_lf n v i) : Int).tdiv ((h 81 1) - ((n : Int) - 1 - i)))), some (.inl (((n : Int) - 1 - i) + (-1))), none, none, none]) dX12_unrank_41 (by decide) rfl rfl ?_
      refine G_goto (tgt := 10) dX12_unrank_44 (by decide) ?_
      have e0 : h 81 1 - ((n : Int) - 1 - i) = ((i + 1 : Nat) : Int) := by omega
      rw [e0]
      have e1 : (f_lf n v i : Int).tmod ((i + 1 : Nat) : Int) = (f_dgt n v (n - (i + 1)) : Nat) := by unfold f_dgt; rw [show n - 1 - (n - (i + 1)) = i by omega, show n - (n - (i + 1)) = i + 1 by omega]; rfl
      have e2 : (f_lf n v i : Int).tdiv ((i + 1 : Nat) : Int) = ((f_lf n v (i + 1) : Nat) : Int) := rfl
      rw [e1, e2, show ((n : Int) - 1 - i).toNat = n - (i + 1) by omega, show n - i = n - (i + 1) + 1 by omega, hf_cons (by omega) rfl]
      rw [show (n : Int) - 1 - (i : Int) + (-1) = (n : Int) - 1 - ((i + 1 : Nat) : Int) by omega]
      exact ih (i + 1) (by omega) (by omega)

theorem c_eq_h (o : Nat → Int) (x : Int) : ∀ (m q : Nat), q < m → o q = x → 0 < c_eq o x m
  | 0, _, h, _ => absurd h (Nat.not_lt_zero _)
  | m + 1, q, h, e => by
    unfold c_eq
    rcases Nat.lt_succ_iff_lt_or_eq.mp h with z | z
    · have := c_eq_h o x m q z e; omega
    · subst z; rw [if_pos e]; omega
theorem m_unr_C (d : Nat) (τ : TT) (h : HT) (hT : TK τ) (Z : ZT) (n : Nat) (hn : h 81 1 = n ∧ 3 ≤ n ∧ n ≤ 7) (a : Nat) (hA : ar_ τ a 13 7) (v : Nat) (u p : Nat) (hp : p < n) (hu : u < 128) (hb : ∀ k : Nat, u.testBit k = true ↔ ∃ q : Nat, q < p ∧ h a q = (k : Int)) (hr : ∀ q : Nat, q < p → 0 ≤ h a q ∧ h a q < n) (hj : ∀ q r : Nat, q < p → r < p → h a q = h a r → q = r) (hc : ∀ q : Nat, q < p → h a q - c_lt (h a) (h a q) q = (f_dgt n v q : Nat)) (hd : ∀ q : Nat, q < n → h 117 q = (f_dgt n v q : Nat)) (K : ∀ k : Nat, k < n → (∀ q : Nat, q < p → h a q ≠ (k : Int)) → (k : Int) - c_lt (h a) k p = (f_dgt n v p : Nat) → G_ mX12_unrank d 0 0 117 [some (.inr (some 81)), some (.inl (v : Int)), some (.inr (some a)), none, some (.inl (u : Int)), some (.inl (p : Int)), some (.inl (k : Int)), none] [] τ h (Z)) : ∀ (n_ : Nat) (k : Nat) (s : Nat), n - k < n_ → k ≤ n → (s : Int) + (k : Int) - c_lt (h a) k p = (f_dgt n v p : Nat) → G_ mX12_unrank d 0 0 74 [some (.inr (some 81)), some (.inl (v : Int)), some (.inr (some a)), none, some (.inl (u : Int)), some (.inl (p : Int)), some (.inl (k : Int)), some (.inl (s : Int))] [] τ h (Z) := by
  intro n_
  induction n_ with
  | zero => intro k s hm_; exact absurd hm_ (Nat.not_lt_zero _)
  | succ n_ ih =>
    intro k s hm_ hk0 hs
    have hk : k < n := by
      rcases Nat.lt_or_ge k n with z | z
      · exact z
      · obtain rfl : k = n := by omega
        have e := c_lt_n (h a) (k : Int) p (fun q hq => (hr q hq).2)
        have e2 : f_dgt k v p < k - p := Nat.mod_lt _ (by omega)
        omega
    have hd1 : f_dgt n v p < n - p := Nat.mod_lt _ (by omega)
    have hcl := c_lt_le (h a) (k : Int) p
    refine G_iload dX12_unrank_74 rfl ?_
    refine G_iload dX12_unrank_76 rfl ?_
    refine G_ishr dX12_unrank_78 ?_
    refine G_iconst dX12_unrank_79 ?_
    refine G_iand dX12_unrank_80 ?_
    have eb := u_bit u hu k (by omega)
    have er : b_and (b_shr (u : Int) (k : Int)) 1 = 0 ∨ b_and (b_shr (u : Int) (k : Int)) 1 = 1 := by rw [eb]; split <;> omega
    refine G_iconst dX12_unrank_81 ?_
    refine G_icmp_eq (tgt := 90) dX12_unrank_82 (by decide) (by omega) (by decide) (fun c_1 => ?_) (fun c_1 => ?_)
    · refine G_iload dX12_unrank_90 rfl ?_
      refine G_iload dX12_unrank_92 rfl ?_
      refine G_iload dX12_unrank_94 rfl ?_
      refine G_ishr dX12_unrank_96 ?_
      refine G_iconst dX12_unrank_97 ?_
      refine G_iand dX12_unrank_98 ?_
      refine G_iconst dX12_unrank_99 ?_
      refine G_icmp_ne (tgt := 107) dX12_unrank_100 (by decide) (by omega) (by decide) (fun q => absurd c_1 q) (fun _ => ?_)
      refine G_iconst dX12_unrank_103 ?_
      refine G_goto (tgt := 108) dX12_unrank_104 (by decide) ?_
      refine G_isub dX12_unrank_108 ?_
      refine G_istore (ls' := [some (.inr (some 81)), some (.inl (v : Int)), some (.inr (some a)), none, some (.inl (u : Int)), some (.inl (p : Int)), some (.inl (k : Int)), some (.inl ((s : Int) - 0))]) dX12_unrank_109 (by decide) rfl ?_
      refine G_iinc (ls' := [some (.inr (some 81)), some (.inl (v : Int)), some (.inr (some a)), none, some (.inl (u : Int)), some (.inl (p : Int)), some (.inl ((k : Int) + 1)), some (.inl ((s : Int) - 0))]) dX12_unrank_111 (by decide) rfl rfl ?_
      refine G_goto (tgt := 74) dX12_unrank_114 (by decide) ?_
      have es := c_lt_s (h a) (k : Int) p
      have ht : u.testBit k = true := by rcases hq : u.testBit k with _ | _; (rw [hq] at eb; simp at eb; omega); rfl
      obtain ⟨q, q1, q2⟩ := (hb k).mp ht
      have e1 := c_eq_1 (h a) (k : Int) p hj
      have e2 : 0 < c_eq (h a) (k : Int) p := c_eq_h (h a) (k : Int) p q q1 q2
      rw [Int.sub_zero]
      exact ih (k + 1) s (by omega) (by omega) (by rw [show ((k + 1 : Nat) : Int) = (k : Int) + 1 by omega]; omega)
    · refine G_iload dX12_unrank_85 rfl ?_
      refine G_if_le (tgt := 117) dX12_unrank_87 (by decide) (by omega) (fun c_2 => ?_) (fun c_2 => ?_)
      · refine G_lsub (ls' := [some (.inr (some 81)), some (.inl (v : Int)), some (.inr (some a)), none, some (.inl (u : Int)), some (.inl (p : Int)), some (.inl (k : Int)), none]) (LS_same (LS_same (LS_same (LS_none (LS_same (LS_same (LS_same (LS_none LS_nil)))))))) ?_
        refine K k hk ?_ (by omega)
        intro q q1 q2
        have := (hb k).mpr ⟨q, q1, q2⟩
        rw [this] at eb; simp at eb; omega
      · refine G_iload dX12_unrank_90 rfl ?_
        refine G_iload dX12_unrank_92 rfl ?_
        refine G_iload dX12_unrank_94 rfl ?_
        refine G_ishr dX12_unrank_96 ?_
        refine G_iconst dX12_unrank_97 ?_
        refine G_iand dX12_unrank_98 ?_
        refine G_iconst dX12_unrank_99 ?_
        refine G_icmp_ne (tgt := 107) dX12_unrank_100 (by decide) (by omega) (by decide) (fun _ => ?_) (fun q => absurd q c_1)
        refine G_iconst dX12_unrank_107 ?_
        refine G_isub dX12_unrank_108 ?_
        refine G_istore (ls' := [some (.inr (some 81)), some (.inl (v : Int)), some (.inr (some a)), none, some (.inl (u : Int)), some (.inl (p : Int)), some (.inl (k : Int)), some (.inl ((s : Int) - 1))]) dX12_unrank_109 (by decide) rfl ?_
        refine G_iinc (ls' := [some (.inr (some 81)), some (.inl (v : Int)), some (.inr (some a)), none, some (.inl (u : Int)), some (.inl (p : Int)), some (.inl ((k : Int) + 1)), some (.inl ((s : Int) - 1))]) dX12_unrank_111 (by decide) rfl rfl ?_
        refine G_goto (tgt := 74) dX12_unrank_114 (by decide) ?_
        have es := c_lt_s (h a) (k : Int) p
        have ht : ∀ q : Nat, q < p → h a q ≠ (k : Int) := fun q q1 q2 => by have := (hb k).mpr ⟨q, q1, q2⟩; rw [this] at eb; simp at eb; omega
        have e2 := c_eq_0 (h a) (k : Int) p ht
        obtain ⟨s2, rfl⟩ : ∃ s2 : Nat, s = s2 + 1 := ⟨s - 1, by omega⟩
        rw [show ((s2 + 1 : Nat) : Int) - 1 = (s2 : Int) by omega]
        exact ih (k + 1) s2 (by omega) (by omega) (by rw [show ((k + 1 : Nat) : Int) = (k : Int) + 1 by omega]; omega)

def UP (h : HT) (a n v u p : Nat) : Prop := u < 128 ∧ (∀ k : Nat, u.testBit k = true ↔ ∃ q : Nat, q < p ∧ h a q = (k : Int)) ∧ (∀ q : Nat, q < p → 0 ≤ h a q ∧ h a q < n) ∧ (∀ q r : Nat, q < p → r < p → h a q = h a r → q = r) ∧ (∀ q : Nat, q < p → h a q - c_lt (h a) (h a q) q = (f_dgt n v q : Nat)) ∧ ∀ q : Nat, q < n → h 117 q = (f_dgt n v q : Nat)
theorem UP_s {h : HT} {a n v u p k : Nat} (x : UP h a n v u p) (ha : a ≠ 117) (hn : n ≤ 7) (hk : k < n) (h1 : ∀ q : Nat, q < p → h a q ≠ (k : Int)) (h2 : (k : Int) - c_lt (h a) k p = (f_dgt n v p : Nat)) : UP (hs_ h a p (k : Int)) a n v (u ||| 2 ^ k) (p + 1) := by
  obtain ⟨x1, x2, x3, x4, x5, x6⟩ := x
  have lo : ∀ q : Nat, q < p → hs_ h a p (k : Int) a q = h a q := fun q hq => hs_ni (by omega)
  have at_ : hs_ h a p (k : Int) a p = (k : Int) := hs_eq
  have cl : ∀ (x : Int) (q : Nat), q ≤ p → c_lt (hs_ h a p (k : Int) a) x q = c_lt (h a) x q := fun x q hq => c_lt_c x q (fun r hr => lo r (by omega))
  refine ⟨(u_or u x1 k (by omega)).2, fun j => ?_, fun q hq => ?_, fun q r hq hr e => ?_, fun q hq => ?_, fun q hq => ?_⟩
  · rw [u_set, Bool.or_eq_true, decide_eq_true_eq, x2 j]
    constructor
    · rintro (⟨q, q1, q2⟩ | e)
      · exact ⟨q, by omega, by rw [lo q q1]; exact q2⟩
      · exact ⟨p, by omega, by rw [at_, e]⟩
    · rintro ⟨q, q1, q2⟩
      rcases Nat.lt_succ_iff_lt_or_eq.mp q1 with z | z
      · left; exact ⟨q, z, by rw [← lo q z]; exact q2⟩
      · subst z; right; rw [at_] at q2; omega
  · rcases Nat.lt_succ_iff_lt_or_eq.mp hq with z | z
    · rw [lo q z]; exact x3 q z
    · subst z; rw [at_]; omega
  · rcases Nat.lt_succ_iff_lt_or_eq.mp hq with z | z <;> rcases Nat.lt_succ_iff_lt_or_eq.mp hr with y | y
    · rw [lo q z, lo r y] at e; exact x4 q r z y e
    · subst y; rw [lo q z, at_] at e; exact absurd e (h1 q z)
    · subst z; rw [lo r y, at_] at e; exact absurd e.symm (h1 r y)
    · omega
  · rcases Nat.lt_succ_iff_lt_or_eq.mp hq with z | z
    · rw [lo q z, cl _ q (by omega)]; exact x5 q z
    · subst z; rw [at_, cl _ q (by omega)]; exact h2
  · rw [hs_na (fun e => ha e.symm)]; exact x6 q hq
theorem UP_end {h : HT} {a n v u : Nat} (x : UP h a n v u n) (hv : v < f_P n n) : isP n (h a) ∧ rk_ n (h a) = v := by
  obtain ⟨x1, x2, x3, x4, x5, x6⟩ := x
  have P : isP n (h a) := ⟨x3, x4⟩
  refine ⟨P, ?_⟩
  have := rk_dg hv (fun p hp => Int.ofNat_inj.mp ((f_less_e P hp).trans (x5 p hp))) n (Nat.le_refl _)
  rw [Nat.sub_self] at this
  exact this
def FRu (a : Nat) (h g : HT) : Prop := ∀ b j : Nat, b ≠ a → b ≠ 117 → g b j = h b j
theorem m_unr_L (d : Nat) (τ : TT) (h : HT) (hT : TK τ) (n : Nat) (hn : h 81 1 = n ∧ 3 ≤ n ∧ n ≤ 7) (a : Nat) (hA : ar_ τ a 13 7) (v : Nat) (ha : a ≠ 117 ∧ a ≠ 81) (hv : v < f_P n n) : ∀ (n_ : Nat) (g : HT) (u : Nat) (p : Nat), n - p < n_ → p ≤ n → UP g a n v u p → FRu a h g → G_ mX12_unrank d 0 0 53 [some (.inr (some 81)), some (.inl (v : Int)), some (.inr (some a)), none, some (.inl (u : Int)), some (.inl (p : Int)), none, none] [] τ g (Zv τ fun h' => isP n (h' a) ∧ rk_ n (h' a) = v ∧ FRu a h h') := by
  intro n_
  induction n_ with
  | zero => intro g u p hm_; exact absurd hm_ (Nat.not_lt_zero _)
  | succ n_ ih =>
    intro g u p hm_ hp up fr
    have X1 : g 81 1 = n := by rw [fr 81 1 (fun e => ha.2 e.symm) (by decide)]; exact hn.1
    have hd1 : p < n → f_dgt n v p < n - p := fun q => Nat.mod_lt _ (by omega)
    refine G_iload dX12_unrank_53 rfl ?_
    refine G_aload_n (i := 0) dX12_unrank_55 rfl rfl ?_
    refine G_getI (v := g 81 1) fX12_13 rfl dX12_unrank_56 (o81 hT) rfl ?_
    refine G_icmp_ge (tgt := 138) dX12_unrank_59 (by decide) (by omega) (by omega) (fun c_1 => ?_) (fun c_1 => ?_)
    · refine G_vretZ rfl dX12_unrank_138 ?_
      obtain rfl : p = n := by omega
      have e := UP_end up hv
      exact ⟨e.1, e.2, fr⟩
    · refine G_iconst dX12_unrank_62 ?_
      refine G_istore (ls' := [some (.inr (some 81)), some (.inl (v : Int)), some (.inr (some a)), none, some (.inl (u : Int)), some (.inl (p : Int)), some (.inl 0), none]) dX12_unrank_63 (by decide) rfl ?_
      refine G_aload_n (i := 0) dX12_unrank_65 rfl rfl ?_
      refine G_getR fX12_162 rfl dX12_unrank_66 (o81 hT) (r81_50 hT) ?_
      refine G_iload dX12_unrank_69 rfl ?_
      refine G_iald (v := (f_dgt n v p : Nat)) dX12_unrank_71 (o117 hT) (by omega) (up.2.2.2.2.2 p (by omega)) ?_
      refine G_istore (ls' := [some (.inr (some 81)), some (.inl (v : Int)), some (.inr (some a)), none, some (.inl (u : Int)), some (.inl (p : Int)), some (.inl 0), some (.inl (f_dgt n v p : Nat))]) dX12_unrank_72 (by decide) rfl ?_
      suffices K : ∀ k : Nat, k < n → (∀ q : Nat, q < p → g a q ≠ (k : Int)) → (k : Int) - c_lt (g a) k p = (f_dgt n v p : Nat) → G_ mX12_unrank d 0 0 117 [some (.inr (some 81)), some (.inl (v : Int)), some (.inr (some a)), none, some (.inl (u : Int)), some (.inl (p : Int)), some (.inl (k : Int)), none] [] τ g (Zv τ fun h' => isP n (h' a) ∧ rk_ n (h' a) = v ∧ FRu a h h') by
        obtain ⟨y1, y2, y3, y4, y5, y6⟩ := up
        exact m_unr_C d τ g hT _ n (by omega) a hA v u p (by omega) y1 y2 y3 y4 y5 y6 K _ 0 (f_dgt n v p) (Nat.lt_succ_self _) (by omega) (by have := c_lt_0 (g a) p (fun q hq => (y3 q hq).1); rw [show ((0 : Nat) : Int) = 0 from rfl]; omega)
      intro k hk h1 h2
      refine G_aload_n (i := 2) dX12_unrank_117 rfl rfl ?_
      refine G_iload dX12_unrank_118 rfl ?_
      refine G_iload dX12_unrank_120 rfl ?_
      refine G_iastk p dX12_unrank_122 hA (by omega) rfl ?_
      refine G_iload dX12_unrank_123 rfl ?_
      refine G_iconst dX12_unrank_125 ?_
      refine G_iload dX12_unrank_126 rfl ?_
      refine G_ishl dX12_unrank_128 ?_
      refine G_ior dX12_unrank_129 ?_
      refine G_istore (ls' := [some (.inr (some 81)), some (.inl (v : Int)), some (.inr (some a)), none, some (.inl (b_or (u : Int) (b_shl 1 (k : Int)))), some (.inl (p : Int)), some (.inl (k : Int)), none]) dX12_unrank_130 (by decide) rfl ?_
      refine G_iinc (ls' := [some (.inr (some 81)), some (.inl (v : Int)), some (.inr (some a)), none, some (.inl (b_or (u : Int) (b_shl 1 (k : Int)))), some (.inl ((p : Int) + 1)), some (.inl (k : Int)), none]) dX12_unrank_132 (by decide) rfl rfl ?_
      refine G_goto (tgt := 53) dX12_unrank_135 (by decide) ?_
      refine G_lsub (ls' := [some (.inr (some 81)), some (.inl (v : Int)), some (.inr (some a)), none, some (.inl (b_or (u : Int) (b_shl 1 (k : Int)))), some (.inl ((p : Int) + 1)), none, none]) (LS_same (LS_same (LS_same (LS_none (LS_same (LS_same (LS_none (LS_none LS_nil)))))))) ?_
      rw [(u_or u up.1 k (by omega)).1]
      exact ih _ _ (p + 1) (by omega) (by omega) (UP_s up ha.1 (by omega) hk h1 h2) (fun b j b1 b2 => by rw [hs_na b1]; exact fr b j b1 b2)

theorem m_unrank (d : Nat) (τ : TT) (h : HT) (hT : TK τ) (n : Nat) (hn : h 81 1 = n ∧ 3 ≤ n ∧ n ≤ 7) (a : Nat) (hA : ar_ τ a 13 7) (v : Nat) (ha : a ≠ 117 ∧ a ≠ 81) (hv : v < f_P n n) (hv2 : v ≤ 10000) : S_ mX12_unrank d 0 0 [.inr (some 81), .inl (v : Int), .inr (some a)] τ h (Zv τ fun h' => isP n (h' a) ∧ rk_ n (h' a) = v ∧ FRu a h h') := by
  refine S_go (k := 5) (ls := [some (.inr (some 81)), some (.inl (v : Int)), some (.inr (some a)), none, none, none, none, none]) (by decide) rfl (Nat.le_of_ble_eq_true rfl) rfl ?_
  refine G_iload_n (i := 1) dX12_unrank_0 rfl rfl ?_
  refine G_istore_n (i := 3) (ls' := [some (.inr (some 81)), some (.inl (v : Int)), some (.inr (some a)), some (.inl (v : Int)), none, none, none, none]) dX12_unrank_1 rfl (by decide) rfl ?_
  refine G_aload_n (i := 0) dX12_unrank_2 rfl rfl ?_
  refine G_getI (v := h 81 1) fX12_13 rfl dX12_unrank_3 (o81 hT) rfl ?_
  refine G_iconst dX12_unrank_6 ?_
  refine G_isub dX12_unrank_7 ?_
  refine G_istore (ls' := [some (.inr (some 81)), some (.inl (v : Int)), some (.inr (some a)), some (.inl (v : Int)), some (.inl ((h 81 1) - 1)), none, none, none]) dX12_unrank_8 (by decide) rfl ?_
  suffices K : G_ mX12_unrank d 0 0 47 [some (.inr (some 81)), some (.inl (v : Int)), some (.inr (some a)), none, none, none, none, none] [] τ (hf_ h 117 0 n (fun p => (f_dgt n v p : Nat))) (Zv τ fun h' => isP n (h' a) ∧ rk_ n (h' a) = v ∧ FRu a h h') by
    have := m_unr_D d τ h hT _ n hn a hA v (by omega) K _ 0 (Nat.lt_succ_self _) (Nat.zero_le _)
    rw [Nat.sub_zero, hf_nil] at this
    rw [show h 81 1 - 1 = (n : Int) - 1 - ((0 : Nat) : Int) by omega]
    exact this
  refine G_iconst dX12_unrank_47 ?_
  refine G_istore (ls' := [some (.inr (some 81)), some (.inl (v : Int)), some (.inr (some a)), none, some (.inl 0), none, none, none]) dX12_unrank_48 (by decide) rfl ?_
  refine G_iconst dX12_unrank_50 ?_
  refine G_istore (ls' := [some (.inr (some 81)), some (.inl (v : Int)), some (.inr (some a)), none, some (.inl 0), some (.inl 0), none, none]) dX12_unrank_51 (by decide) rfl ?_
  refine m_unr_L d τ h hT n hn a hA v ha hv _ _ 0 0 (Nat.lt_succ_self _) (Nat.zero_le _) ⟨by decide, fun k => ?_, fun q hq => absurd hq (Nat.not_lt_zero _), fun q r hq => absurd hq (Nat.not_lt_zero _), fun q hq => absurd hq (Nat.not_lt_zero _), fun q hq => hf_in ⟨Nat.zero_le _, hq⟩⟩ (fun b j b1 b2 => hf_na b2)
  rw [Nat.zero_testBit]
  exact ⟨fun z => (by cases z), fun ⟨q, q1, _⟩ => absurd q1 (Nat.not_lt_zero _)⟩

