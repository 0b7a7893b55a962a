/-! the reference: fewest -/
def f_fa : Nat → Nat
  | 0 => 1
  | k + 1 => f_fa k * (k + 1)
theorem f_fa_P : ∀ n : Nat, n < 8 → f_fa n = f_P n n := by decide
theorem f_P_b : ∀ n : Nat, n < 8 → f_P n n ≤ 5040 ∧ 1 ≤ f_P n n := by decide
theorem f_fa_b : ∀ n : Nat, n < 8 → f_fa n ≤ 5040 := by decide
theorem f_sw_c {n p : Nat} {o o' : Nat → Int} (hp : p < n) (e : ∀ q : Nat, q < n → o q = o' q) (q : Nat) (hq : q < n) : f_sw n o p q = f_sw n o' p q := by
  unfold f_sw
  rw [e p hp, e q hq, e _ (show (if p + 1 = n then 0 else p + 1) < n by split <;> omega)]
def FRo (h g : HT) : Prop := ∀ b j : Nat, b ≠ 112 → b ≠ 114 → b ≠ 115 → b ≠ 117 → g b j = h b j
theorem FRo.rf {h : HT} : FRo h h := fun _ _ _ _ _ _ => rfl
theorem FRo.tr {h g k : HT} (x : FRo h g) (y : FRo g k) : FRo h k := fun a i p q r s => (y a i p q r s).trans (x a i p q r s)
theorem m_far_A (d : Nat) (τ : TT) (h : HT) (hT : TK τ) (Z : ZT) (n : Nat) (hn : h 81 1 = n ∧ 3 ≤ n ∧ n ≤ 7) (K : G_ mX12_findFar (d + 2) 0 0 22 [some (.inr (some 81)), some (.inl ((f_P n n) : Int)), none, none, none, none, none] [] τ h (Z)) : ∀ (n_ : Nat) (j : Nat), n - j < n_ → j ≤ n → G_ mX12_findFar (d + 2) 0 0 4 [some (.inr (some 81)), some (.inl ((f_fa j) : Int)), some (.inl ((j + 1) : Int)), none, none, none, none] [] τ h (Z) := by
  intro n_
  induction n_ with
  | zero => intro j hm_; exact absurd hm_ (Nat.not_lt_zero _)
  | succ n_ ih =>
    intro j hm_ hj
    refine G_iload_n (i := 2) dX12_findFar_4 rfl rfl ?_
    refine G_aload_n (i := 0) dX12_findFar_5 rfl rfl ?_
    refine G_getI (v := h 81 1) fX12_13 rfl dX12_findFar_6 (o81 hT) rfl ?_
    refine G_icmp_gt (tgt := 22) dX12_findFar_9 (by decide) (by omega) (by omega) (fun c_1 => ?_) (fun c_1 => ?_)
    · refine G_lsub (ls' := [some (.inr (some 81)), some (.inl ((f_fa j) : Int)), none, none, none, none, none]) (LS_same (LS_same (LS_none (LS_none (LS_none (LS_none (LS_none LS_nil))))))) ?_
      obtain rfl : j = n := by omega
      rw [f_fa_P j (by omega)]
      exact K
    · refine G_iload_n (i := 1) dX12_findFar_12 rfl rfl ?_
      refine G_iload_n (i := 2) dX12_findFar_13 rfl rfl ?_
      refine G_imul dX12_findFar_14 ?_
      refine G_istore_n (i := 1) (ls' := [some (.inr (some 81)), some (.inl (((f_fa j) : Int) * ((j + 1) : Int))), some (.inl ((j + 1) : Int)), none, none, none, none]) dX12_findFar_15 rfl (by decide) rfl ?_
      refine G_iinc (ls' := [some (.inr (some 81)), some (.inl (((f_fa j) : Int) * ((j + 1) : Int))), some (.inl (((j + 1) : Int) + 1)), none, none, none, none]) dX12_findFar_16 (by decide) rfl rfl ?_
      refine G_goto (tgt := 4) dX12_findFar_19 (by decide) ?_
      have := ih (j + 1) (by omega) (by omega)
      exact this

theorem m_far_B (d : Nat) (τ : TT) (h : HT) (hT : TK τ) (Z : ZT) (N : Nat) (hN : N ≤ 5040) (K : G_ mX12_findFar (d + 2) 0 0 42 [some (.inr (some 81)), none, none, none, none, none, none] [] τ (hf_ h 114 0 N (fun _ => -1)) (Z)) : ∀ (n_ : Nat) (i : Nat), N - i < n_ → i ≤ N → G_ mX12_findFar (d + 2) 0 0 24 [some (.inr (some 81)), some (.inl (N : Int)), some (.inl (i : Int)), none, none, none, none] [] τ (hf_ h 114 0 i (fun _ => -1)) (Z) := by
  intro n_
  induction n_ with
  | zero => intro i hm_; exact absurd hm_ (Nat.not_lt_zero _)
  | succ n_ ih =>
    intro i hm_ hi
    refine G_iload_n (i := 2) dX12_findFar_24 rfl rfl ?_
    refine G_iload_n (i := 1) dX12_findFar_25 rfl rfl ?_
    refine G_icmp_ge (tgt := 42) dX12_findFar_26 (by decide) (by omega) (by omega) (fun c_1 => ?_) (fun c_1 => ?_)
    · refine G_lsub (ls' := [some (.inr (some 81)), none, none, none, none, none, none]) (LS_same (LS_none (LS_none (LS_none (LS_none (LS_none (LS_none LS_nil))))))) ?_
      obtain rfl : i = N := by omega
      exact K
    · refine G_aload_n (i := 0) dX12_findFar_29 rfl rfl ?_
      refine G_getR fX12_150 rfl dX12_findFar_30 (o81 hT) (r81_46 hT) ?_
      refine G_iload_n (i := 2) dX12_findFar_33 rfl rfl ?_
      refine G_iconst dX12_findFar_34 ?_
      refine G_iastk i dX12_findFar_35 (o114 hT) (by omega) rfl ?_
      refine G_iinc (ls' := [some (.inr (some 81)), some (.inl (N : Int)), some (.inl ((i : Int) + 1)), none, none, none, none]) dX12_findFar_36 (by decide) rfl rfl ?_
      refine G_goto (tgt := 24) dX12_findFar_39 (by decide) ?_
      rw [hf_snoc (Nat.zero_le _) rfl]
      exact ih (i + 1) (by omega) (by omega)

theorem m_far_I (d : Nat) (τ : TT) (h : HT) (hT : TK τ) (Z : ZT) (n : Nat) (hn : h 81 1 = n ∧ 3 ≤ n ∧ n ≤ 7) (D : (Nat → Int) → Int) (bf : BF n D) (u : Nat → Int) (hu : isP n u) (fr : Nat) (K : ∀ (g : HT) (to : Nat), BS n D (g 114) (g 115) (fr + 1) to → FRo h g → G_ mX12_findFar (d + 2) 0 0 72 [some (.inr (some 81)), none, some (.inl ((fr + 1) : Int)), some (.inl (to : Int)), none, none, none] [] τ g (Z)) : ∀ (n_ : Nat) (g : HT) (p : Nat) (to : Nat), n - p < n_ → p ≤ n → BS n D (g 114) (g 115) fr to → fr < to → g 115 fr = rk_ n u → (∀ q : Nat, q < n → g 112 q = u q) → FRo h g → (∀ q : Nat, q < p → g 114 (rk_ n (f_sw n u q)) ≠ -1) → G_ mX12_findFar (d + 2) 0 0 110 [some (.inr (some 81)), none, some (.inl ((fr + 1) : Int)), some (.inl (to : Int)), some (.inl (D u)), some (.inl (p : Int)), none] [] τ g (Z) := by
  intro n_
  induction n_ with
  | zero => intro g p to hm_; exact absurd hm_ (Nat.not_lt_zero _)
  | succ n_ ih =>
    intro g p to hm_ hp bs hft hl ord frm vis
    have X1 : g 81 1 = n := by rw [frm 81 1 (by decide) (by decide) (by decide) (by decide)]; exact hn.1
    have hPb := f_P_b n (by omega)
    have hto := bs.2.2.2.2.2.2.1.1
    refine G_iload dX12_findFar_110 rfl ?_
    refine G_aload_n (i := 0) dX12_findFar_112 rfl rfl ?_
    refine G_getI (v := g 81 1) fX12_13 rfl dX12_findFar_113 (o81 hT) rfl ?_
    refine G_icmp_ge (tgt := 187) dX12_findFar_116 (by decide) (by omega) (by omega) (fun c_1 => ?_) (fun c_1 => ?_)
    · refine G_goto (tgt := 72) dX12_findFar_187 (by decide) ?_
      refine G_lsub (ls' := [some (.inr (some 81)), none, some (.inl ((fr + 1) : Int)), some (.inl (to : Int)), none, none, none]) (LS_same (LS_none (LS_same (LS_same (LS_none (LS_none (LS_none LS_nil))))))) ?_
      exact K g to (bs_next (by omega) bf bs hft hu hl (fun q hq => vis q (by omega))) frm
    · refine G_aload_n (i := 0) dX12_findFar_119 rfl rfl ?_
      refine G_aload_n (i := 0) dX12_findFar_120 rfl rfl ?_
      refine G_getR fX12_144 rfl dX12_findFar_121 (o81 hT) (r81_44 hT) ?_
      refine G_iload dX12_findFar_124 rfl ?_
      refine G_cVv (as := [.inr (some 112), .inl (p : Int)]) qX12_307 (m_swap d τ g hT n ⟨X1, hn.2⟩ 112 (o112 hT) p (by omega) (by decide)) rfl rfl (Nat.le_of_ble_eq_true rfl) (o81 hT) dX12_findFar_126 (fun g1 e1 => ?_)
      have f1 : ∀ b j : Nat, b ≠ 112 → g1 b j = g b j := fun b j hb => by rw [e1, hf_na hb]
      have s1 : ∀ q : Nat, q < n → g1 112 q = f_sw n u p q := fun q hq => by rw [e1, hf_in ⟨Nat.zero_le _, hq⟩]; exact f_sw_c (by omega) ord q hq
      have P1 : isP n (g1 112) := isP_c (fun q hq => (s1 q hq).symm) (f_sw_P hu (by omega) (by omega))
      have X1_ : g1 81 1 = n := (f1 81 1 (by decide)).trans X1
      have er : rk_ n (g1 112) = (rk_ n (f_sw n u p)) := f_rk_c s1 n (Nat.le_refl _)
      have hR := rk_N (n := n) (f_sw n u p)
      have hPb := f_P_b n (by omega)
      refine G_aload_n (i := 0) dX12_findFar_129 rfl rfl ?_
      refine G_aload_n (i := 0) dX12_findFar_130 rfl rfl ?_
      refine G_getR fX12_144 rfl dX12_findFar_131 (o81 hT) (r81_44 hT) ?_
      refine G_cVq (as := [.inr (some 112)]) qX12_300 (m_rank (d + 1) τ g1 hT n ⟨X1_, hn.2⟩ 112 (o112 hT) P1) rfl rfl (Nat.le_of_ble_eq_true rfl) (o81 hT) dX12_findFar_134 ?_
      rw [er]
      refine G_istore (ls' := [some (.inr (some 81)), none, some (.inl ((fr + 1) : Int)), some (.inl (to : Int)), some (.inl (D u)), some (.inl (p : Int)), some (.inl ((rk_ n (f_sw n u p)) : Int))]) dX12_findFar_137 (by decide) rfl ?_
      refine G_aload_n (i := 0) dX12_findFar_139 rfl rfl ?_
      refine G_getR fX12_150 rfl dX12_findFar_140 (o81 hT) (r81_46 hT) ?_
      refine G_iload dX12_findFar_143 rfl ?_
      refine G_iald (v := g 114 (rk_ n (f_sw n u p))) dX12_findFar_145 (o114 hT) (by omega) (f1 114 (rk_ n (f_sw n u p)) (by decide)) ?_
      have rf : g 114 (rk_ n (f_sw n u p)) = -1 ∨ (0 ≤ g 114 (rk_ n (f_sw n u p)) ∧ g 114 (rk_ n (f_sw n u p)) ≤ 40) := by rcases bs.1 _ (f_sw_P hu (show p < n by omega) (by omega)) with z | z; (exact Or.inl z); (have := bf.2.1 _ (f_sw_P hu (show p < n by omega) (by omega)); rw [z.1]; exact Or.inr this)
      have room := fun q => bs_room bs (rk_N (f_sw n u p)) q
      refine G_if_ge (tgt := 171) dX12_findFar_146 (by decide) (by omega) (fun c_2 => ?_) (fun c_2 => ?_)
      · have hX : g1 81 1 = n := X1_
        have hS := s1
        refine G_aload_n (i := 0) dX12_findFar_171 rfl rfl ?_
        refine G_aload_n (i := 0) dX12_findFar_172 rfl rfl ?_
        refine G_getR fX12_144 rfl dX12_findFar_173 (o81 hT) (r81_44 hT) ?_
        refine G_iload dX12_findFar_176 rfl ?_
        refine G_cVv (as := [.inr (some 112), .inl (p : Int)]) qX12_307 (m_swap d τ g1 hT n ⟨hX, hn.2⟩ 112 (o112 hT) p (by omega) (by decide)) rfl rfl (Nat.le_of_ble_eq_true rfl) (o81 hT) dX12_findFar_178 (fun g3 e3 => ?_)
        have f3 : ∀ b j : Nat, b ≠ 112 → g3 b j = g1 b j := fun b j hb => by rw [e3, hf_na hb]
        have s3 : ∀ q : Nat, q < n → g3 112 q = u q := fun q hq => by rw [e3, hf_in ⟨Nat.zero_le _, hq⟩, f_sw_c (by omega) hS q hq]; exact f_sw_sw (by omega) (by omega) q
        refine G_iinc (ls' := [some (.inr (some 81)), none, some (.inl ((fr + 1) : Int)), some (.inl (to : Int)), some (.inl (D u)), some (.inl ((p : Int) + 1)), some (.inl ((rk_ n (f_sw n u p)) : Int))]) dX12_findFar_181 (by decide) rfl rfl ?_
        refine G_goto (tgt := 110) dX12_findFar_184 (by decide) ?_
        refine G_lsub (ls' := [some (.inr (some 81)), none, some (.inl ((fr + 1) : Int)), some (.inl (to : Int)), some (.inl (D u)), some (.inl ((p : Int) + 1)), none]) (LS_same (LS_none (LS_same (LS_same (LS_same (LS_same (LS_none LS_nil))))))) ?_
        have E4 : g3 114 = g 114 := by funext j; rw [f3 114 j (by decide), f1 114 j (by decide)]
        have E5 : g3 115 = g 115 := by funext j; rw [f3 115 j (by decide), f1 115 j (by decide)]
        refine ih g3 (p + 1) to (by omega) (by omega) (by rw [E4, E5]; exact bs) hft (by rw [E5]; exact hl) s3 (frm.tr (fun b j b1 b2 b3 b4 => by rw [f3 b j b1, f1 b j b1])) (fun q hq => ?_)
        rw [E4]
        rcases Nat.lt_succ_iff_lt_or_eq.mp hq with z | z
        · exact vis q z
        · subst z; omega
      · refine G_aload_n (i := 0) dX12_findFar_149 rfl rfl ?_
        refine G_getR fX12_150 rfl dX12_findFar_150 (o81 hT) (r81_46 hT) ?_
        refine G_iload dX12_findFar_153 rfl ?_
        refine G_iload dX12_findFar_155 rfl ?_
        refine G_iconst dX12_findFar_157 ?_
        refine G_iadd dX12_findFar_158 ?_
        refine G_iastk (rk_ n (f_sw n u p)) dX12_findFar_159 (o114 hT) (by omega) rfl ?_
        refine G_aload_n (i := 0) dX12_findFar_160 rfl rfl ?_
        refine G_getR fX12_153 rfl dX12_findFar_161 (o81 hT) (r81_47 hT) ?_
        refine G_iload_n (i := 3) dX12_findFar_164 rfl rfl ?_
        refine G_iload dX12_findFar_165 rfl ?_
        refine G_iastk to dX12_findFar_167 (o115 hT) (by omega) rfl ?_
        refine G_iinc (ls' := [some (.inr (some 81)), none, some (.inl ((fr + 1) : Int)), some (.inl ((to : Int) + 1)), some (.inl (D u)), some (.inl (p : Int)), some (.inl ((rk_ n (f_sw n u p)) : Int))]) dX12_findFar_168 (by decide) rfl rfl ?_
        have hX : (hs_ (hs_ g1 114 (rk_ n (f_sw n u p)) ((D u) + 1)) 115 to ((rk_ n (f_sw n u p)) : Int)) 81 1 = n := by rw [hs_na (by decide), hs_na (by decide)]; exact X1_
        have hS : ∀ q : Nat, q < n → (hs_ (hs_ g1 114 (rk_ n (f_sw n u p)) ((D u) + 1)) 115 to ((rk_ n (f_sw n u p)) : Int)) 112 q = f_sw n u p q := fun q hq => by rw [hs_na (by decide), hs_na (by decide)]; exact s1 q hq
        refine G_aload_n (i := 0) dX12_findFar_171 rfl rfl ?_
        refine G_aload_n (i := 0) dX12_findFar_172 rfl rfl ?_
        refine G_getR fX12_144 rfl dX12_findFar_173 (o81 hT) (r81_44 hT) ?_
        refine G_iload dX12_findFar_176 rfl ?_
        refine G_cVv (as := [.inr (some 112), .inl (p : Int)]) qX12_307 (m_swap d τ (hs_ (hs_ g1 114 (rk_ n (f_sw n u p)) ((D u) + 1)) 115 to ((rk_ n (f_sw n u p)) : Int)) hT n ⟨hX, hn.2⟩ 112 (o112 hT) p (by omega) (by decide)) rfl rfl (Nat.le_of_ble_eq_true rfl) (o81 hT) dX12_findFar_178 (fun g3 e3 => ?_)
        have f3 : ∀ b j : Nat, b ≠ 112 → g3 b j = (hs_ (hs_ g1 114 (rk_ n (f_sw n u p)) ((D u) + 1)) 115 to ((rk_ n (f_sw n u p)) : Int)) b j := fun b j hb => by rw [e3, hf_na hb]
        have s3 : ∀ q : Nat, q < n → g3 112 q = u q := fun q hq => by rw [e3, hf_in ⟨Nat.zero_le _, hq⟩, f_sw_c (by omega) hS q hq]; exact f_sw_sw (by omega) (by omega) q
        refine G_iinc (ls' := [some (.inr (some 81)), none, some (.inl ((fr + 1) : Int)), some (.inl ((to : Int) + 1)), some (.inl (D u)), some (.inl ((p : Int) + 1)), some (.inl ((rk_ n (f_sw n u p)) : Int))]) dX12_findFar_181 (by decide) rfl rfl ?_
        refine G_goto (tgt := 110) dX12_findFar_184 (by decide) ?_
        refine G_lsub (ls' := [some (.inr (some 81)), none, some (.inl ((fr + 1) : Int)), some (.inl ((to : Int) + 1)), some (.inl (D u)), some (.inl ((p : Int) + 1)), none]) (LS_same (LS_none (LS_same (LS_same (LS_same (LS_same (LS_none LS_nil))))))) ?_
        have E4 : g3 114 = f_up (g 114) (rk_ n (f_sw n u p)) (D u + 1) := by funext j; rw [f3 114 j (by decide), hs_na (by decide)]; unfold hs_ f_up; rw [f1 114 j (by decide)]; split <;> split <;> first | rfl | omega
        have E5 : g3 115 = f_up (g 115) to ((rk_ n (f_sw n u p)) : Nat) := by funext j; rw [f3 115 j (by decide)]; unfold f_up; by_cases z : j = to; (rw [if_pos z, z]; exact hs_eq); (rw [if_neg z, hs_ni z, hs_na (by decide)]; exact f1 115 j (by decide))
        have bn := bs_new (by omega) bf bs hft hu hl (show p < n by omega) (by omega)
        rw [← E4, ← E5] at bn
        refine ih g3 (p + 1) (to + 1) (by omega) (by omega) bn (by omega) (by rw [E5]; unfold f_up; rw [if_neg (by omega)]; exact hl) s3 (frm.tr (fun b j b1 b2 b3 b4 => by rw [f3 b j b1, hs_na b3, hs_na b2, f1 b j b1])) (fun q hq => ?_)
        rw [E4]
        rcases Nat.lt_succ_iff_lt_or_eq.mp hq with z | z
        · have := vis q z; have d0 := (bf.2.1 u hu).1; unfold f_up; split <;> omega
        · subst z; have d0 := (bf.2.1 u hu).1; unfold f_up; rw [if_pos rfl]; omega

theorem m_far_L (d : Nat) (τ : TT) (h : HT) (hT : TK τ) (n : Nat) (hn : h 81 1 = n ∧ 3 ≤ n ∧ n ≤ 7) (D : (Nat → Int) → Int) (bf : BF n D) : ∀ (n_ : Nat) (g : HT) (fr : Nat) (to : Nat), f_P n n - fr < n_ → BS n D (g 114) (g 115) fr to → FRo h g → G_ mX12_findFar (d + 2) 0 0 72 [some (.inr (some 81)), none, some (.inl (fr : Int)), some (.inl (to : Int)), none, none, none] [] τ g (Zv τ fun h' => (∀ o : Nat → Int, isP n o → h' 114 (rk_ n o) = D o) ∧ FRo h h') := by
  intro n_
  induction n_ with
  | zero => intro g fr to hm_; exact absurd hm_ (Nat.not_lt_zero _)
  | succ n_ ih =>
    intro g fr to hm_ bs frm
    have X1 : g 81 1 = n := by rw [frm 81 1 (by decide) (by decide) (by decide) (by decide)]; exact hn.1
    have hPb := f_P_b n (by omega)
    have hto := bs.2.2.2.2.2.2.1
    refine G_iload_n (i := 2) dX12_findFar_72 rfl rfl ?_
    refine G_iload_n (i := 3) dX12_findFar_73 rfl rfl ?_
    refine G_icmp_ge (tgt := 190) dX12_findFar_74 (by decide) (by omega) (by omega) (fun c_1 => ?_) (fun c_1 => ?_)
    · refine G_vretZ rfl dX12_findFar_190 ?_
      refine ⟨fun o ho => ?_, frm⟩
      have := (bf.2.1 o ho).1
      exact bs_end (by omega) bf bs (by omega) (D o).toNat o ho (by omega)
    · obtain ⟨u, hu, hl, hd⟩ := bs.2.1 fr (by omega)
      have hD := bf.2.1 u hu
      have hR := rk_N (n := n) u
      refine G_aload_n (i := 0) dX12_findFar_77 rfl rfl ?_
      refine G_getR fX12_150 rfl dX12_findFar_78 (o81 hT) (r81_46 hT) ?_
      refine G_aload_n (i := 0) dX12_findFar_81 rfl rfl ?_
      refine G_getR fX12_153 rfl dX12_findFar_82 (o81 hT) (r81_47 hT) ?_
      refine G_iload_n (i := 2) dX12_findFar_85 rfl rfl ?_
      refine G_iald (v := (rk_ n u : Nat)) dX12_findFar_86 (o115 hT) (by omega) (hl) ?_
      refine G_iald (v := D u) dX12_findFar_87 (o114 hT) (by omega) ((by rw [Int.toNat_natCast]; exact hd)) ?_
      refine G_istore (ls' := [some (.inr (some 81)), none, some (.inl (fr : Int)), some (.inl (to : Int)), some (.inl (D u)), none, none]) dX12_findFar_88 (by decide) rfl ?_
      refine G_aload_n (i := 0) dX12_findFar_90 rfl rfl ?_
      refine G_aload_n (i := 0) dX12_findFar_91 rfl rfl ?_
      refine G_getR fX12_153 rfl dX12_findFar_92 (o81 hT) (r81_47 hT) ?_
      refine G_iload_n (i := 2) dX12_findFar_95 rfl rfl ?_
      refine G_iald (v := (rk_ n u : Nat)) dX12_findFar_96 (o115 hT) (by omega) (hl) ?_
      refine G_aload_n (i := 0) dX12_findFar_97 rfl rfl ?_
      refine G_getR fX12_144 rfl dX12_findFar_98 (o81 hT) (r81_44 hT) ?_
      refine G_cVv (as := [.inl (rk_ n u : Nat), .inr (some 112)]) qX12_303 (m_unrank (d + 1) τ g hT n ⟨X1, hn.2⟩ 112 (o112 hT) (rk_ n u) (by decide) hR (by omega)) rfl rfl (Nat.le_of_ble_eq_true rfl) (o81 hT) dX12_findFar_101 (fun g2 e2 => ?_)
      obtain ⟨P2, R2, f2⟩ := e2
      have Du : D (g2 112) = D u := bf.1 _ _ (rk_inj P2 hu R2 n (Nat.le_refl _))
      refine G_iinc (ls' := [some (.inr (some 81)), none, some (.inl ((fr : Int) + 1)), some (.inl (to : Int)), some (.inl (D u)), none, none]) dX12_findFar_104 (by decide) rfl rfl ?_
      refine G_iconst dX12_findFar_107 ?_
      refine G_istore (ls' := [some (.inr (some 81)), none, some (.inl ((fr : Int) + 1)), some (.inl (to : Int)), some (.inl (D u)), some (.inl 0), none]) dX12_findFar_108 (by decide) rfl ?_
      rw [← Du]
      refine G_lsub (ls' := [some (.inr (some 81)), none, some (.inl ((fr + 1) : Int)), some (.inl (to : Int)), some (.inl (D (g2 112))), some (.inl 0), none]) (LS_same (LS_none (LS_same (LS_same (LS_same (LS_same (LS_none LS_nil))))))) (m_far_I d τ h hT _ n hn D bf (g2 112) P2 fr (fun g3 to3 b3 f3 => ih g3 (fr + 1) to3 (by omega) b3 f3) _ g2 0 to (Nat.lt_succ_self _) (by omega) ?_ (by omega) ?_ (fun _ _ => rfl) (frm.tr (fun b j b1 b2 b3 b4 => f2 b j b1 b4)) (fun q hq => absurd hq (Nat.not_lt_zero _)))
      · rw [show g2 114 = g 114 from funext fun j => f2 114 j (by decide) (by decide), show g2 115 = g 115 from funext fun j => f2 115 j (by decide) (by decide)]; exact bs
      · rw [f2 115 fr (by decide) (by decide), hl, R2]

theorem m_findFar (d : Nat) (τ : TT) (h : HT) (hT : TK τ) (n : Nat) (hn : h 81 1 = n ∧ 3 ≤ n ∧ n ≤ 7) (D : (Nat → Int) → Int) (bf : BF n D) (hg : isP n (h 113)) (h0 : D (h 113) = 0) (hz : ∀ o : Nat → Int, isP n o → D o = 0 → ∀ p : Nat, p < n → o p = h 113 p) : S_ mX12_findFar (d + 2) 0 0 [.inr (some 81)] τ h (Zv τ fun h' => (∀ o : Nat → Int, isP n o → h' 114 (rk_ n o) = D o) ∧ FRo h h') := by
  refine S_go (k := 6) (ls := [some (.inr (some 81)), none, none, none, none, none, none]) (by decide) rfl (Nat.le_of_ble_eq_true rfl) rfl ?_
  refine G_iconst dX12_findFar_0 ?_
  refine G_istore_n (i := 1) (ls' := [some (.inr (some 81)), some (.inl 1), none, none, none, none, none]) dX12_findFar_1 rfl (by decide) rfl ?_
  refine G_iconst dX12_findFar_2 ?_
  refine G_istore_n (i := 2) (ls' := [some (.inr (some 81)), some (.inl 1), some (.inl 2), none, none, none, none]) dX12_findFar_3 rfl (by decide) rfl ?_
  have hPb := f_P_b n (by omega)
  suffices K : G_ mX12_findFar (d + 2) 0 0 22 [some (.inr (some 81)), some (.inl ((f_P n n) : Int)), none, none, none, none, none] [] τ h (Zv τ fun h' => (∀ o : Nat → Int, isP n o → h' 114 (rk_ n o) = D o) ∧ FRo h h') by
    exact m_far_A d τ h hT _ n hn K _ 1 (Nat.lt_succ_self _) (by omega)
  refine G_iconst dX12_findFar_22 ?_
  refine G_istore_n (i := 2) (ls' := [some (.inr (some 81)), some (.inl ((f_P n n) : Int)), some (.inl 0), none, none, none, none]) dX12_findFar_23 rfl (by decide) rfl ?_
  suffices K : G_ mX12_findFar (d + 2) 0 0 42 [some (.inr (some 81)), none, none, none, none, none, none] [] τ (hf_ h 114 0 (f_P n n) (fun _ => -1)) (Zv τ fun h' => (∀ o : Nat → Int, isP n o → h' 114 (rk_ n o) = D o) ∧ FRo h h') by
    have := m_far_B d τ h hT _ (f_P n n) (by omega) K _ 0 (Nat.lt_succ_self _) (by omega)
    rw [hf_nil] at this
    exact this
  have P1 : isP n ((hf_ h 114 0 (f_P n n) (fun _ => -1)) 113) := isP_c (fun q hq => (hf_na (by decide)).symm) hg
  refine G_iconst dX12_findFar_42 ?_
  refine G_istore_n (i := 2) (ls' := [some (.inr (some 81)), none, some (.inl 0), none, none, none, none]) dX12_findFar_43 rfl (by decide) rfl ?_
  refine G_iconst dX12_findFar_44 ?_
  refine G_istore_n (i := 3) (ls' := [some (.inr (some 81)), none, some (.inl 0), some (.inl 1), none, none, none]) dX12_findFar_45 rfl (by decide) rfl ?_
  refine G_aload_n (i := 0) dX12_findFar_46 rfl rfl ?_
  refine G_getR fX12_153 rfl dX12_findFar_47 (o81 hT) (r81_47 hT) ?_
  refine G_iconst dX12_findFar_50 ?_
  refine G_aload_n (i := 0) dX12_findFar_51 rfl rfl ?_
  refine G_aload_n (i := 0) dX12_findFar_52 rfl rfl ?_
  refine G_getR fX12_147 rfl dX12_findFar_53 (o81 hT) (r81_45 hT) ?_
  refine G_cVq (as := [.inr (some 113)]) qX12_300 (m_rank (d + 1) τ (hf_ h 114 0 (f_P n n) (fun _ => -1)) hT n ⟨(hf_na (by decide)).trans hn.1, hn.2⟩ 113 (o113 hT) P1) rfl rfl (Nat.le_of_ble_eq_true rfl) (o81 hT) dX12_findFar_56 ?_
  rw [show rk_ n ((hf_ h 114 0 (f_P n n) (fun _ => -1)) 113) = rk_ n (h 113) from f_rk_c (fun q hq => hf_na (by decide)) n (Nat.le_refl _)]
  have hR := rk_N (n := n) (h 113)
  refine G_iastk 0 dX12_findFar_59 (o115 hT) (by decide) rfl ?_
  refine G_aload_n (i := 0) dX12_findFar_60 rfl rfl ?_
  refine G_getR fX12_150 rfl dX12_findFar_61 (o81 hT) (r81_46 hT) ?_
  refine G_aload_n (i := 0) dX12_findFar_64 rfl rfl ?_
  refine G_getR fX12_153 rfl dX12_findFar_65 (o81 hT) (r81_47 hT) ?_
  refine G_iconst dX12_findFar_68 ?_
  refine G_iald (v := ((rk_ n (h 113)) : Int)) dX12_findFar_69 (o115 hT) (by decide) (hs_eq) ?_
  refine G_iconst dX12_findFar_70 ?_
  refine G_iastk ((((rk_ n (h 113)) : Int)).toNat) dX12_findFar_71 (o114 hT) (by omega) rfl ?_
  refine G_lsub (ls' := [some (.inr (some 81)), none, some (.inl 0), some (.inl 1), none, none, none]) (LS_same (LS_none (LS_same (LS_same (LS_none (LS_none (LS_none LS_nil))))))) ?_
  refine m_far_L d τ h hT n hn D bf _ _ 0 1 (Nat.lt_succ_self _) ?_ (fun b j b1 b2 b3 b4 => by rw [hs_na b2, hs_na b3, hf_na b2])
  have e := bs_first (far := (hs_ (hf_ h 114 0 (f_P n n) (fun _ => -1)) 115 0 (rk_ n (h 113) : Nat)) 114) (line := (hs_ (hf_ h 114 0 (f_P n n) (fun _ => -1)) 115 0 (rk_ n (h 113) : Nat)) 115) bf hg h0 hz (fun r hr => by rw [hs_na (by decide), hf_in ⟨Nat.zero_le _, hr⟩]) hs_eq
  have e4 : (hs_ (hs_ (hf_ h 114 0 (f_P n n) (fun _ => -1)) 115 0 ((rk_ n (h 113)) : Int)) 114 ((((rk_ n (h 113)) : Int)).toNat) 0) 114 = f_up ((hs_ (hf_ h 114 0 (f_P n n) (fun _ => -1)) 115 0 (rk_ n (h 113) : Nat)) 114) (rk_ n (h 113)) 0 := by funext j; unfold f_up; rw [Int.toNat_natCast]; by_cases z : j = rk_ n (h 113); (rw [if_pos z, z]; exact hs_eq); (rw [if_neg z]; exact hs_ni z)
  have e5 : (hs_ (hs_ (hf_ h 114 0 (f_P n n) (fun _ => -1)) 115 0 ((rk_ n (h 113)) : Int)) 114 ((((rk_ n (h 113)) : Int)).toNat) 0) 115 = (hs_ (hf_ h 114 0 (f_P n n) (fun _ => -1)) 115 0 (rk_ n (h 113) : Nat)) 115 := by funext j; exact hs_na (by decide)
  rw [e4, e5]
  exact e

