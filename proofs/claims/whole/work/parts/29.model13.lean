/-! the reference: colours -/
/-- the digits of k, c to a place, the last place the lowest -/
def f_dg (c n k p : Nat) : Int := ((k / c ^ (n - 1 - p) % c : Nat) : Int)
theorem f_dg_r {c n k p : Nat} (hc : 1 ≤ c) : 0 ≤ f_dg c n k p ∧ f_dg c n k p < c := by
  unfold f_dg
  have := Nat.mod_lt (k / c ^ (n - 1 - p)) (show c > 0 by omega)
  omega
/-- the first least one of w 0 .. w (m - 1) -/
def f_am (w : Nat → Int) (m a : Nat) : Prop := a < m ∧ (∀ k, k < m → w a ≤ w k) ∧ ∀ k, k < a → w a < w k
theorem f_am_s {w : Nat → Int} {k a : Nat} (x : f_am w k a) : (w k < w a → f_am w (k + 1) k) ∧ (¬ w k < w a → f_am w (k + 1) a) := by
  obtain ⟨x1, x2, x3⟩ := x
  refine ⟨fun q => ⟨by omega, fun j hj => ?_, fun j hj => ?_⟩, fun q => ⟨by omega, fun j hj => ?_, x3⟩⟩
  · rcases Nat.lt_succ_iff_lt_or_eq.mp hj with z | z
    · have := x2 j z; omega
    · subst z; omega
  · have := x2 j hj; omega
  · rcases Nat.lt_succ_iff_lt_or_eq.mp hj with z | z
    · exact x2 j z
    · subst z; omega
theorem f_am_0 {w : Nat → Int} : f_am w 1 0 := ⟨by omega, fun k hk => by obtain rfl : k = 0 := (by omega); exact Int.le_refl _, fun k hk => by omega⟩
theorem f_am_u {w : Nat → Int} {m a b : Nat} (x : f_am w m a) (y : f_am w m b) : a = b := by
  rcases Nat.lt_trichotomy a b with z | z | z
  · have := y.2.2 a z; have := x.2.1 b y.1; omega
  · exact z
  · have := x.2.2 b z; have := y.2.1 a x.1; omega
def FRc (h g : HT) : Prop := ∀ a i : Nat, a ≠ 100 → a ≠ 101 → g a i = h a i
theorem FRc.rf {h : HT} : FRc h h := fun _ _ _ _ => rfl
theorem FRc.tr {h g k : HT} (x : FRc h g) (y : FRc g k) : FRc h k := fun a i p q => (y a i p q).trans (x a i p q)
theorem f_top_c {h g : HT} (e1 : g 81 1 = h 81 1) (e2 : g 95 = h 95) (e3 : g 96 = h 96) (r p : Int) : f_top g r p = f_top h r p := by
  unfold f_top f_aft f_ahd; rw [e1, e2, e3]
/-- how many are wrong asks of few cells alone -/
theorem f_wv_c {h g : HT} {x y : Nat → Int} (e1 : g 81 1 = h 81 1) (e2 : g 95 = h 95) (e3 : g 96 = h 96) (e4 : g 81 15 = h 81 15) (e5 : g 97 = h 97) (e6 : g 98 = h 98) (e7 : g 99 = h 99) {m : Nat} (hx : ∀ k : Nat, k < m → h 97 k < h 81 15 → h 98 k < h 81 1 → x (f_top h (h 97 k) (h 98 k)).toNat = y (f_top h (h 97 k) (h 98 k)).toNat) : ∀ k : Nat, k ≤ m → f_wv g x k = f_wv h y k
  | 0, _ => rfl
  | k + 1, hk => by
    have ih := f_wv_c e1 e2 e3 e4 e5 e6 e7 hx k (by omega)
    have hb : f_bad g x k ↔ f_bad h y k := by
      unfold f_bad
      rw [e4, e5, e6, e7, e1, f_top_c e1 e2 e3]
      by_cases a : h 81 15 ≤ h 97 k
      · simp [a]
      · by_cases b : h 81 1 ≤ h 98 k
        · simp [b]
        · rw [hx k (by omega) (by omega) (by omega)]
    by_cases q : f_bad h y k
    · rw [f_wv_1 q, f_wv_1 (hb.mpr q), ih]
    · rw [f_wv_0 q, f_wv_0 (fun z => q (hb.mp z)), ih]
theorem hf_cons {h : HT} {a lo hi : Nat} {f : Nat → Int} {v : Int} (hl : lo < hi) (hv : f lo = v) : hs_ (hf_ h a (lo + 1) hi f) a lo v = hf_ h a lo hi f := by
  funext b j
  unfold hs_ hf_
  grind
theorem m_col_D (d : Nat) (τ : TT) (h : HT) (hT : TK τ) (Z : ZT) (C n k : Nat) (w al be : Int) (hC : 1 ≤ C ∧ C ≤ 4) (hn : n ≤ 9) (hk : k ≤ 100000) (K : G_ mX12_colours (d + 3) 0 0 127 [some (.inr (some 81)), some (.inl (C : Int)), some (.inl w), some (.inl al), some (.inl be), some (.inl (k : Int)), none, none, none] [] τ (hf_ h 100 0 n (f_dg C n k)) (Z)) : ∀ (n_ : Nat) (i : Nat), n - i < n_ → i ≤ n → G_ mX12_colours (d + 3) 0 0 99 [some (.inr (some 81)), some (.inl (C : Int)), some (.inl w), some (.inl al), some (.inl be), some (.inl (k : Int)), some (.inl ((k / C ^ i : Nat) : Int)), some (.inl ((n : Int) - 1 - i)), none] [] τ (hf_ h 100 (n - i) n (f_dg C n k)) (Z) := by
  intro n_
  induction n_ with
  | zero => intro i hm_; exact absurd hm_ (Nat.not_lt_zero _)
  | succ n_ ih =>
    intro i hm_ hi
    have hd_ : (0 : Int) ≤ ((k / C ^ i : Nat) : Int) ∧ ((k / C ^ i : Nat) : Int) ≤ (k : Int) := ⟨Int.natCast_nonneg _, Int.ofNat_le.mpr (Nat.div_le_self _ _)⟩
    refine G_iload dX12_colours_99 rfl ?_
    refine G_if_lt (tgt := 127) dX12_colours_101 (by decide) (by omega) (fun c_1 => ?_) (fun c_1 => ?_)
    · refine G_lsub (ls' := [some (.inr (some 81)), some (.inl (C : Int)), some (.inl w), some (.inl al), some (.inl be), some (.inl (k : Int)), none, none, none]) (LS_same (LS_same (LS_same (LS_same (LS_same (LS_same (LS_none (LS_none (LS_none LS_nil))))))))) ?_
      obtain rfl : i = n := by omega
      rw [Nat.sub_self]
      exact K
    · refine G_aload_n (i := 0) dX12_colours_104 rfl rfl ?_
      refine G_getR fX12_84 rfl dX12_colours_105 (o81 hT) (r81_24 hT) ?_
      refine G_iload dX12_colours_108 rfl ?_
      refine G_iload dX12_colours_110 rfl ?_
      refine G_iload_n (i := 1) dX12_colours_112 rfl rfl ?_
      refine G_irem dX12_colours_113 (by omega) (by omega) ?_
      refine G_iastk (((n : Int) - 1 - i).toNat) dX12_colours_114 (o100 hT) (by omega) rfl ?_
      refine G_iload dX12_colours_115 rfl ?_
      refine G_iload_n (i := 1) dX12_colours_117 rfl rfl ?_
      refine G_idiv dX12_colours_118 (by omega) (by omega) ?_
      refine G_istore (ls' := [some (.inr (some 81)), some (.inl (C : Int)), some (.inl w), some (.inl al), some (.inl be), some (.inl (k : Int)), some (.inl (((k / C ^ i : Nat) : Int).tdiv (C : Int))), some (.inl ((n : Int) - 1 - i)), none]) dX12_colours_119 (by decide) rfl ?_
      refine G_iinc (ls' := [some (.inr (some 81)), some (.inl (C : Int)), some (.inl w), some (.inl al), some (.inl be), some (.inl (k : Int)), some (.inl (((k / C ^ i : Nat) : Int).tdiv (C : Int))), some (.inl (((n : Int) - 1 - i) + (-1))), none]) dX12_colours_121 (by decide) rfl rfl ?_
      refine G_goto (tgt := 99) dX12_colours_124 (by decide) ?_
      have e1 : ((k / C ^ i : Nat) : Int).tmod (C : Int) = f_dg C n k (n - (i + 1)) := by unfold f_dg; rw [show n - 1 - (n - (i + 1)) = i by omega]; rfl
      have e2 : ((k / C ^ i : Nat) : Int).tdiv (C : Int) = ((k / C ^ (i + 1) : Nat) : Int) := by rw [Nat.pow_succ, ← Nat.div_div_eq_div_mul]; rfl
      rw [e1, e2, show ((n : Int) - 1 - i).toNat = n - (i + 1) by omega, show n - i = n - (i + 1) + 1 by omega, hf_cons (by omega) rfl]
      rw [show (n : Int) - 1 - (i : Int) + (-1) = (n : Int) - 1 - ((i + 1 : Nat) : Int) by omega]
      exact ih (i + 1) (by omega) (by omega)

theorem m_col_B (d : Nat) (τ : TT) (h : HT) (hT : TK τ) (Z : ZT) (C n k : Nat) (w al be v : Int) (hn : h 81 1 = n ∧ n ≤ 9) (K : G_ mX12_colours (d + 3) 0 0 183 [some (.inr (some 81)), some (.inl (C : Int)), some (.inl w), some (.inl al), some (.inl be), some (.inl (k : Int)), none, none, none] [] τ (hf_ h 101 0 n (h 100)) (Z)) : ∀ (n_ : Nat) (i : Nat), n - i < n_ → i ≤ n → G_ mX12_colours (d + 3) 0 0 154 [some (.inr (some 81)), some (.inl (C : Int)), some (.inl w), some (.inl al), some (.inl be), some (.inl (k : Int)), none, some (.inl v), some (.inl (i : Int))] [] τ (hf_ h 101 0 i (h 100)) (Z) := by
  intro n_
  induction n_ with
  | zero => intro i hm_; exact absurd hm_ (Nat.not_lt_zero _)
  | succ n_ ih =>
    intro i hm_ hi
    refine G_iload dX12_colours_154 rfl ?_
    refine G_aload_n (i := 0) dX12_colours_156 rfl rfl ?_
    refine G_getI (v := h 81 1) fX12_13 rfl dX12_colours_157 (o81 hT) (hf_na (by decide)) ?_
    refine G_icmp_ge (tgt := 183) dX12_colours_160 (by decide) (by omega) (by omega) (fun c_1 => ?_) (fun c_1 => ?_)
    · refine G_lsub (ls' := [some (.inr (some 81)), some (.inl (C : Int)), some (.inl w), some (.inl al), some (.inl be), some (.inl (k : Int)), none, none, none]) (LS_same (LS_same (LS_same (LS_same (LS_same (LS_same (LS_none (LS_none (LS_none LS_nil))))))))) ?_
      obtain rfl : i = n := by omega
      exact K
    · refine G_aload_n (i := 0) dX12_colours_163 rfl rfl ?_
      refine G_getR fX12_87 rfl dX12_colours_164 (o81 hT) (r81_25 hT) ?_
      refine G_iload dX12_colours_167 rfl ?_
      refine G_aload_n (i := 0) dX12_colours_169 rfl rfl ?_
      refine G_getR fX12_84 rfl dX12_colours_170 (o81 hT) (r81_24 hT) ?_
      refine G_iload dX12_colours_173 rfl ?_
      refine G_iald (v := h 100 i) dX12_colours_175 (o100 hT) (by omega) (hf_na (by decide)) ?_
      refine G_iastk i dX12_colours_176 (o101 hT) (by omega) rfl ?_
      refine G_iinc (ls' := [some (.inr (some 81)), some (.inl (C : Int)), some (.inl w), some (.inl al), some (.inl be), some (.inl (k : Int)), none, some (.inl v), some (.inl ((i : Int) + 1))]) dX12_colours_177 (by decide) rfl rfl ?_
      refine G_goto (tgt := 154) dX12_colours_180 (by decide) ?_
      rw [hf_snoc (Nat.zero_le _) rfl]
      exact ih (i + 1) (by omega) (by omega)

noncomputable def f_cw (h : HT) (C n : Nat) (k : Nat) : Int := f_wv h (f_dg C n k) (h 81 20).toNat
def f_cok (h : HT) : Prop := ∀ r p : Nat, (r : Int) < h 81 15 → (p : Int) < h 81 1 → h 95 (9 * r + p) < h 81 1
theorem f_top_n {h : HT} {r p : Int} (hc : ∀ k : Nat, k < 900 → 0 ≤ h 95 k ∧ h 95 k ≤ 8) (ok : f_cok h) (hr : 0 ≤ r ∧ r < h 81 15) (hp : 0 ≤ p ∧ p < h 81 1) (hn : h 81 1 ≤ 9 ∧ h 81 15 ≤ 100) : 0 ≤ f_top h r p ∧ f_top h r p < h 81 1 := by
  have a1 := f_top_r hc (r := r) (p := p) hn.1 (by omega) (by omega)
  refine ⟨a1.1, ?_⟩
  have q : ∀ p : Int, 0 ≤ p → p < h 81 1 → h 95 (9 * r + p).toNat < h 81 1 := fun p p0 p1 => by
    have := ok r.toNat p.toNat (by omega) (by omega)
    rwa [show (9 * r + p).toNat = 9 * r.toNat + p.toNat by omega]
  have q2 := f_aft_r (n := h 81 1) (p := p) hp
  unfold f_top
  split
  · exact q _ q2.1 q2.2
  · exact q _ hp.1 hp.2
def f_cG (h g : HT) (C n k : Nat) (be : Int) : Prop := FRc h g ∧ (∀ j : Nat, j < 9 → 0 ≤ g 100 j ∧ g 100 j ≤ 7) ∧ ((k = 0 ∧ be = 1000) ∨ ∃ a, f_am (f_cw h C n) k a ∧ be = f_cw h C n a ∧ ∀ p : Nat, p < n → g 101 p = f_dg C n a p)
theorem f_cw_r (h : HT) (C n k : Nat) : 0 ≤ f_cw h C n k ∧ f_cw h C n k ≤ (h 81 20).toNat := f_wv_r _ _ _
theorem f_cG_b {h g : HT} {C n k : Nat} {be : Int} (x : f_cG h g C n k be) (ht : 0 ≤ h 81 20 ∧ h 81 20 ≤ 40) : 0 ≤ be ∧ be ≤ 1000 := by
  obtain ⟨_, _, z | ⟨a, _, z, _⟩⟩ := x
  · omega
  · have := f_cw_r h C n a; omega
theorem f_cG_0 {h g : HT} {C n k : Nat} {be : Int} (x : f_cG h g C n k be) (q : ¬ f_cw h C n k < be) (ht : 0 ≤ h 81 20 ∧ h 81 20 ≤ 40) (hC : 1 ≤ C ∧ C ≤ 4) : f_cG h (hf_ g 100 0 n (f_dg C n k)) C n (k + 1) be := by
  obtain ⟨x1, x2, x3⟩ := x
  refine ⟨fun a i h1 h2 => by rw [hf_na h1]; exact x1 a i h1 h2, fun j hj => ?_, ?_⟩
  · unfold hf_; have := f_dg_r (c := C) (n := n) (k := k) (p := j) hC.1; have := x2 j hj; split <;> omega
  · rcases x3 with z | ⟨a, z1, z2, z3⟩
    · have := f_cw_r h C n k; omega
    · exact Or.inr ⟨a, (f_am_s z1).2 (by omega), z2, fun p hp => by rw [hf_na (by decide)]; exact z3 p hp⟩
theorem f_cG_1 {h g : HT} {C n k : Nat} {be : Int} (x : f_cG h g C n k be) (q : f_cw h C n k < be) (hC : 1 ≤ C ∧ C ≤ 4) : f_cG h (hf_ (hf_ g 100 0 n (f_dg C n k)) 101 0 n (hf_ g 100 0 n (f_dg C n k) 100)) C n (k + 1) (f_cw h C n k) := by
  obtain ⟨x1, x2, x3⟩ := x
  refine ⟨fun a i h1 h2 => by rw [hf_na h2, hf_na h1]; exact x1 a i h1 h2, fun j hj => ?_, Or.inr ⟨k, ?_, rfl, fun p hp => ?_⟩⟩
  · rw [hf_na (by decide)]; unfold hf_; have := f_dg_r (c := C) (n := n) (k := k) (p := j) hC.1; have := x2 j hj; split <;> omega
  · rcases x3 with ⟨z, _⟩ | ⟨a, z1, z2, z3⟩
    · subst z; exact f_am_0
    · exact (f_am_s z1).1 (by omega)
  · rw [hf_in ⟨Nat.zero_le _, hp⟩, hf_in ⟨Nat.zero_le _, hp⟩]
theorem m_col_L (d : Nat) (τ : TT) (h : HT) (hT : TK τ) (C n : Nat) (w : Int) (hw : -1 ≤ w ∧ w < n) (hC : 1 ≤ C ∧ C ≤ 4) (hn : h 81 1 = n ∧ n ≤ 6) (hN : 1 ≤ C ^ n ∧ C ^ n ≤ 4096) (x : MI h) (ht4 : ∀ j : Nat, j < 40 → h 97 j < h 81 15 → h 98 j < h 81 1 → (f_top h (h 97 j) (h 98 j)).toNat < n) : ∀ (n_ : Nat) (g : HT) (k : Nat) (be : Int), C ^ n - k < n_ → k ≤ C ^ n → f_cG h g C n k be → G_ mX12_colours (d + 3) 0 0 81 [some (.inr (some 81)), some (.inl (C : Int)), some (.inl w), some (.inl ((C ^ n : Nat) : Int)), some (.inl be), some (.inl (k : Int)), none, none, none] [] τ g (Zi τ fun v h' => ∃ a, f_am (f_cw h C n) (C ^ n) a ∧ v = (if w < 0 then f_cw h C n a else f_dg C n a w.toNat) ∧ FRc h h' ∧ ∀ j : Nat, j < 9 → 0 ≤ h' 100 j ∧ h' 100 j ≤ 7) := by
  intro n_
  induction n_ with
  | zero => intro g k be hm_; exact absurd hm_ (Nat.not_lt_zero _)
  | succ n_ ih =>
    intro g k be hm_ hk ok
    have ht := x.t_
    have F := fun (a i : Nat) (p : a ≠ 100) (q : a ≠ 101) => ok.1 a i p q
    have X1 : g 81 1 = n := by rw [F 81 1 (by decide) (by decide)]; exact hn.1
    have hb := f_cG_b ok ht
    refine G_iload dX12_colours_81 rfl ?_
    refine G_iload_n (i := 3) dX12_colours_83 rfl rfl ?_
    refine G_icmp_ge (tgt := 189) dX12_colours_84 (by decide) (by omega) (by omega) (fun c_1 => ?_) (fun c_1 => ?_)
    · refine G_iload_n (i := 2) dX12_colours_189 rfl rfl ?_
      refine G_if_ge (tgt := 198) dX12_colours_190 (by decide) (by omega) (fun c_2 => ?_) (fun c_2 => ?_)
      · refine G_aload_n (i := 0) dX12_colours_198 rfl rfl ?_
        refine G_getR fX12_87 rfl dX12_colours_199 (o81 hT) (r81_25 hT) ?_
        refine G_iload_n (i := 2) dX12_colours_202 rfl rfl ?_
        refine G_iald (v := g 101 ((w).toNat)) dX12_colours_203 (o101 hT) (by omega) rfl ?_
        refine G_iretZ rfl dX12_colours_204 ?_
        rcases ok.2.2 with z | ⟨a, z1, z2, z3⟩
        · omega
        obtain rfl : k = C ^ n := by omega
        refine ⟨a, z1, ?_, ok.1, ok.2.1⟩
        rw [if_neg (by omega)]
        exact z3 w.toNat (by omega)
      · refine G_iload dX12_colours_193 rfl ?_
        refine G_goto (tgt := 204) dX12_colours_195 (by decide) ?_
        refine G_iretZ rfl dX12_colours_204 ?_
        rcases ok.2.2 with z | ⟨a, z1, z2, z3⟩
        · omega
        obtain rfl : k = C ^ n := by omega
        refine ⟨a, z1, ?_, ok.1, ok.2.1⟩
        rw [if_pos (by omega)]
        exact z2
    · refine G_iload dX12_colours_87 rfl ?_
      refine G_istore (ls' := [some (.inr (some 81)), some (.inl (C : Int)), some (.inl w), some (.inl ((C ^ n : Nat) : Int)), some (.inl be), some (.inl (k : Int)), some (.inl (k : Int)), none, none]) dX12_colours_89 (by decide) rfl ?_
      refine G_aload_n (i := 0) dX12_colours_91 rfl rfl ?_
      refine G_getI (v := g 81 1) fX12_13 rfl dX12_colours_92 (o81 hT) rfl ?_
      refine G_iconst dX12_colours_95 ?_
      refine G_isub dX12_colours_96 ?_
      refine G_istore (ls' := [some (.inr (some 81)), some (.inl (C : Int)), some (.inl w), some (.inl ((C ^ n : Nat) : Int)), some (.inl be), some (.inl (k : Int)), some (.inl (k : Int)), some (.inl ((g 81 1) - 1)), none]) dX12_colours_97 (by decide) rfl ?_
      suffices K99 : G_ mX12_colours (d + 3) 0 0 127 [some (.inr (some 81)), some (.inl (C : Int)), some (.inl w), some (.inl ((C ^ n : Nat) : Int)), some (.inl be), some (.inl (k : Int)), none, none, none] [] τ (hf_ g 100 0 n (f_dg C n k)) (Zi τ fun v h' => ∃ a, f_am (f_cw h C n) (C ^ n) a ∧ v = (if w < 0 then f_cw h C n a else f_dg C n a w.toNat) ∧ FRc h h' ∧ ∀ j : Nat, j < 9 → 0 ≤ h' 100 j ∧ h' 100 j ≤ 7) by
        have := m_col_D d τ g hT _ C n k w ((C ^ n : Nat) : Int) be hC (by omega) (by omega) K99 _ 0 (Nat.lt_succ_self _) (Nat.zero_le _)
        rw [Nat.sub_zero, hf_nil, Nat.pow_zero, Nat.div_one] at this
        have e0 : g 81 1 - 1 = (n : Int) - 1 - ((0 : Nat) : Int) := by omega
        rw [e0]
        exact this
      have hg100 : ∀ j : Nat, j < 9 → 0 ≤ (hf_ g 100 0 n (f_dg C n k)) 100 j ∧ (hf_ g 100 0 n (f_dg C n k)) 100 j ≤ 7 := fun j hj => by have := ok.2.1 j hj; have := f_dg_r (c := C) (n := n) (k := k) (p := j) hC.1; unfold hf_; split <;> omega
      refine G_aload_n (i := 0) dX12_colours_127 rfl rfl ?_
      refine G_aload_n (i := 0) dX12_colours_128 rfl rfl ?_
      refine G_getR fX12_84 rfl dX12_colours_129 (o81 hT) (r81_24 hT) ?_
      refine G_cVq (as := [.inr (some 100)]) qX12_230 (m_wrongWith d τ (hf_ g 100 0 n (f_dg C n k)) hT 100 (o100 hT) hg100 (by rw [hf_na (by decide), X1]; omega) (by rw [hf_na (by decide), F 81 15 (by decide) (by decide)]; exact x.r_) (by rw [hf_na (by decide), F 81 20 (by decide) (by decide)]; exact x.t_) (fun j hj => by rw [hf_na (by decide), F 95 j (by decide) (by decide)]; exact x.cr_ j hj) (fun j hj => by rw [hf_na (by decide), F 96 j (by decide) (by decide)]; exact x.cm_ j hj) (fun j hj => by rw [hf_na (by decide), F 97 j (by decide) (by decide)]; exact x.t7_ j hj) (fun j hj => by rw [hf_na (by decide), F 98 j (by decide) (by decide)]; exact x.t8_ j hj) (fun j hj => by rw [hf_na (by decide), F 99 j (by decide) (by decide)]; exact x.t9_ j hj)) rfl rfl (Nat.le_of_ble_eq_true rfl) (o81 hT) dX12_colours_132 ?_
      refine G_istore (ls' := [some (.inr (some 81)), some (.inl (C : Int)), some (.inl w), some (.inl ((C ^ n : Nat) : Int)), some (.inl be), some (.inl (k : Int)), none, some (.inl (f_wv (hf_ g 100 0 n (f_dg C n k)) ((hf_ g 100 0 n (f_dg C n k)) 100) ((hf_ g 100 0 n (f_dg C n k)) 81 20).toNat)), none]) dX12_colours_135 (by decide) rfl ?_
      have ew : f_wv (hf_ g 100 0 n (f_dg C n k)) ((hf_ g 100 0 n (f_dg C n k)) 100) ((hf_ g 100 0 n (f_dg C n k)) 81 20).toNat = f_cw h C n k := by
        rw [hf_na (by decide), F 81 20 (by decide) (by decide)]
        refine f_wv_c (by rw [hf_na (by decide)]; exact F 81 1 (by decide) (by decide)) (funext fun j => by rw [hf_na (by decide)]; exact F 95 j (by decide) (by decide)) (funext fun j => by rw [hf_na (by decide)]; exact F 96 j (by decide) (by decide)) (by rw [hf_na (by decide)]; exact F 81 15 (by decide) (by decide)) (funext fun j => by rw [hf_na (by decide)]; exact F 97 j (by decide) (by decide)) (funext fun j => by rw [hf_na (by decide)]; exact F 98 j (by decide) (by decide)) (funext fun j => by rw [hf_na (by decide)]; exact F 99 j (by decide) (by decide)) (fun j j0 j1 j2 => ?_) _ (Nat.le_refl _)
        have j4 := ht4 j (by omega) j1 j2
        rw [hf_in (by omega)]
      rw [ew]
      have rw_ := f_cw_r h C n k
      refine G_iload dX12_colours_137 rfl ?_
      refine G_iload dX12_colours_139 rfl ?_
      refine G_icmp_lt (tgt := 147) dX12_colours_141 (by decide) (by omega) (by omega) (fun c_3 => ?_) (fun c_3 => ?_)
      · refine G_iload dX12_colours_147 rfl ?_
        refine G_istore (ls' := [some (.inr (some 81)), some (.inl (C : Int)), some (.inl w), some (.inl ((C ^ n : Nat) : Int)), some (.inl (f_cw h C n k)), some (.inl (k : Int)), none, some (.inl (f_cw h C n k)), none]) dX12_colours_149 (by decide) rfl ?_
        refine G_iconst dX12_colours_151 ?_
        refine G_istore (ls' := [some (.inr (some 81)), some (.inl (C : Int)), some (.inl w), some (.inl ((C ^ n : Nat) : Int)), some (.inl (f_cw h C n k)), some (.inl (k : Int)), none, some (.inl (f_cw h C n k)), some (.inl 0)]) dX12_colours_152 (by decide) rfl ?_
        have ok2 := f_cG_1 ok (by omega) hC
        suffices K183 : G_ mX12_colours (d + 3) 0 0 183 [some (.inr (some 81)), some (.inl (C : Int)), some (.inl w), some (.inl ((C ^ n : Nat) : Int)), some (.inl (f_cw h C n k)), some (.inl (k : Int)), none, none, none] [] τ (hf_ (hf_ g 100 0 n (f_dg C n k)) 101 0 n ((hf_ g 100 0 n (f_dg C n k)) 100)) (Zi τ fun v h' => ∃ a, f_am (f_cw h C n) (C ^ n) a ∧ v = (if w < 0 then f_cw h C n a else f_dg C n a w.toNat) ∧ FRc h h' ∧ ∀ j : Nat, j < 9 → 0 ≤ h' 100 j ∧ h' 100 j ≤ 7) by
          have := m_col_B d τ (hf_ g 100 0 n (f_dg C n k)) hT _ C n k w ((C ^ n : Nat) : Int) (f_cw h C n k) (f_cw h C n k) ⟨by rw [hf_na (by decide)]; exact X1, by omega⟩ K183 _ 0 (Nat.lt_succ_self _) (Nat.zero_le _)
          rw [hf_nil] at this
          exact G_lsub (LS_same (LS_same (LS_same (LS_same (LS_same (LS_same (LS_none (LS_same (LS_same LS_nil))))))))) this
        refine G_iinc (ls' := [some (.inr (some 81)), some (.inl (C : Int)), some (.inl w), some (.inl ((C ^ n : Nat) : Int)), some (.inl (f_cw h C n k)), some (.inl ((k : Int) + 1)), none, none, none]) dX12_colours_183 (by decide) rfl rfl ?_
        refine G_goto (tgt := 81) dX12_colours_186 (by decide) ?_
        refine G_lsub (ls' := [some (.inr (some 81)), some (.inl (C : Int)), some (.inl w), some (.inl ((C ^ n : Nat) : Int)), some (.inl (f_cw h C n k)), some (.inl ((k : Int) + 1)), none, none, none]) (LS_same (LS_same (LS_same (LS_same (LS_same (LS_same (LS_none (LS_none (LS_none LS_nil))))))))) ?_
        exact ih _ (k + 1) (f_cw h C n k) (by omega) (by omega) (f_cG_1 ok (by omega) hC)
      · refine G_goto (tgt := 183) dX12_colours_144 (by decide) ?_
        refine G_iinc (ls' := [some (.inr (some 81)), some (.inl (C : Int)), some (.inl w), some (.inl ((C ^ n : Nat) : Int)), some (.inl be), some (.inl ((k : Int) + 1)), none, some (.inl (f_cw h C n k)), none]) dX12_colours_183 (by decide) rfl rfl ?_
        refine G_goto (tgt := 81) dX12_colours_186 (by decide) ?_
        refine G_lsub (ls' := [some (.inr (some 81)), some (.inl (C : Int)), some (.inl w), some (.inl ((C ^ n : Nat) : Int)), some (.inl be), some (.inl ((k : Int) + 1)), none, none, none]) (LS_same (LS_same (LS_same (LS_same (LS_same (LS_same (LS_none (LS_none (LS_none LS_nil))))))))) ?_
        exact ih _ (k + 1) be (by omega) (by omega) (f_cG_0 ok (by omega) ht hC)

theorem f_pw {C i n : Nat} (hC : 1 ≤ C ∧ C ≤ 4) (hi : i ≤ n) (hn : n ≤ 6) : 1 ≤ C ^ i ∧ C ^ i ≤ 4096 := ⟨Nat.pos_of_ne_zero (by have := Nat.pow_pos (n := i) (show 0 < C by omega); omega), Nat.le_trans (Nat.pow_le_pow_left hC.2 i) (Nat.le_trans (Nat.pow_le_pow_right (by decide) (show i ≤ 6 by omega)) (by decide))⟩
theorem m_col_A (d : Nat) (τ : TT) (h : HT) (hT : TK τ) (Z : ZT) (C n : Nat) (w : Int) (hC : 1 ≤ C ∧ C ≤ 4) (hn : h 81 1 = n ∧ n ≤ 6) (K : G_ mX12_colours (d + 3) 0 0 73 [some (.inr (some 81)), some (.inl (C : Int)), some (.inl w), some (.inl ((C ^ n : Nat) : Int)), none, none, none, none, none] [] τ h (Z)) : ∀ (n_ : Nat) (i : Nat), n - i < n_ → i ≤ n → G_ mX12_colours (d + 3) 0 0 54 [some (.inr (some 81)), some (.inl (C : Int)), some (.inl w), some (.inl ((C ^ i : Nat) : Int)), some (.inl (i : Int)), none, none, none, none] [] τ h (Z) := by
  intro n_
  induction n_ with
  | zero => intro i hm_; exact absurd hm_ (Nat.not_lt_zero _)
  | succ n_ ih =>
    intro i hm_ hi
    refine G_iload dX12_colours_54 rfl ?_
    refine G_aload_n (i := 0) dX12_colours_56 rfl rfl ?_
    refine G_getI (v := h 81 1) fX12_13 rfl dX12_colours_57 (o81 hT) rfl ?_
    refine G_icmp_ge (tgt := 73) dX12_colours_60 (by decide) (by omega) (by omega) (fun c_1 => ?_) (fun c_1 => ?_)
    · refine G_lsub (ls' := [some (.inr (some 81)), some (.inl (C : Int)), some (.inl w), some (.inl ((C ^ i : Nat) : Int)), none, none, none, none, none]) (LS_same (LS_same (LS_same (LS_same (LS_none (LS_none (LS_none (LS_none (LS_none LS_nil))))))))) ?_
      obtain rfl : i = n := by omega
      exact K
    · refine G_iload_n (i := 3) dX12_colours_63 rfl rfl ?_
      refine G_iload_n (i := 1) dX12_colours_64 rfl rfl ?_
      refine G_imul dX12_colours_65 ?_
      refine G_istore_n (i := 3) (ls' := [some (.inr (some 81)), some (.inl (C : Int)), some (.inl w), some (.inl (((C ^ i : Nat) : Int) * (C : Int))), some (.inl (i : Int)), none, none, none, none]) dX12_colours_66 rfl (by decide) rfl ?_
      refine G_iinc (ls' := [some (.inr (some 81)), some (.inl (C : Int)), some (.inl w), some (.inl (((C ^ i : Nat) : Int) * (C : Int))), some (.inl ((i : Int) + 1)), none, none, none, none]) dX12_colours_67 (by decide) rfl rfl ?_
      refine G_goto (tgt := 54) dX12_colours_70 (by decide) ?_
      rw [show ((C ^ i : Nat) : Int) * (C : Int) = ((C ^ (i + 1) : Nat) : Int) by rw [Nat.pow_succ]; exact (Int.natCast_mul _ _).symm]
      exact ih (i + 1) (by omega) (by omega)

theorem m_colours (d : Nat) (τ : TT) (h : HT) (hT : TK τ) (c w : Int) (r_c : -2147483648 ≤ c ∧ c ≤ 2147483647) (r_w : -2147483648 ≤ w ∧ w ≤ 2147483647) (x : MI h) (ok : f_cok h) (h100 : ∀ j : Nat, j < 9 → 0 ≤ h 100 j ∧ h 100 j ≤ 7) : S_ mX12_colours (d + 3) 0 0 [.inr (some 81), .inl c, .inl w] τ h (Zi τ fun v h' => (¬ (-1 ≤ w ∧ w ≤ h 81 1 - 1) → v = -1 ∧ h' = h) ∧ ((-1 ≤ w ∧ w ≤ h 81 1 - 1) → ¬ (1 ≤ c ∧ c ≤ 4) → v = -2 ∧ h' = h) ∧ ((-1 ≤ w ∧ w ≤ h 81 1 - 1) → (1 ≤ c ∧ c ≤ 4) → (h 81 15 = 0 ∨ 6 < h 81 1) → v = -3 ∧ h' = h) ∧ ((-1 ≤ w ∧ w ≤ h 81 1 - 1) → (1 ≤ c ∧ c ≤ 4) → ¬ (h 81 15 = 0 ∨ 6 < h 81 1) → ∃ a, f_am (f_cw h c.toNat (h 81 1).toNat) (c.toNat ^ (h 81 1).toNat) a ∧ v = (if w < 0 then f_cw h c.toNat (h 81 1).toNat a else f_dg c.toNat (h 81 1).toNat a w.toNat) ∧ FRc h h' ∧ ∀ j : Nat, j < 9 → 0 ≤ h' 100 j ∧ h' 100 j ≤ 7)) := by
  have hn9 := x.n9
  have hr := x.r_
  refine S_go (k := 6) (ls := [some (.inr (some 81)), some (.inl c), some (.inl w), none, none, none, none, none, none]) (by decide) rfl (Nat.le_of_ble_eq_true rfl) rfl ?_
  refine G_aload_n (i := 0) dX12_colours_0 rfl rfl ?_
  refine G_iload_n (i := 2) dX12_colours_1 rfl rfl ?_
  refine G_iconst dX12_colours_2 ?_
  refine G_aload_n (i := 0) dX12_colours_3 rfl rfl ?_
  refine G_getI (v := h 81 1) fX12_13 rfl dX12_colours_4 (o81 hT) rfl ?_
  refine G_iconst dX12_colours_7 ?_
  refine G_isub dX12_colours_8 ?_
  refine G_cVq (as := [.inl w, .inl (-1), .inl ((h 81 1) - 1)]) qX12_195 (m_in (d + 2) τ _ 81 w (-1) ((h 81 1) - 1) (by omega) (by decide) (by omega)) rfl rfl (Nat.le_of_ble_eq_true rfl) (o81 hT) dX12_colours_9 ?_
  refine G_ifb_ne (tgt := 17) dX12_colours_12 (by decide) (fun c_1 => ?_) (fun c_1 => ?_)
  · refine G_aload_n (i := 0) dX12_colours_17 rfl rfl ?_
    refine G_iload_n (i := 1) dX12_colours_18 rfl rfl ?_
    refine G_iconst dX12_colours_19 ?_
    refine G_iconst dX12_colours_20 ?_
    refine G_cVq (as := [.inl c, .inl 1, .inl 4]) qX12_195 (m_in (d + 2) τ _ 81 c 1 4 (by omega) (by decide) (by decide)) rfl rfl (Nat.le_of_ble_eq_true rfl) (o81 hT) dX12_colours_21 ?_
    refine G_ifb_ne (tgt := 30) dX12_colours_24 (by decide) (fun c_2 => ?_) (fun c_2 => ?_)
    · refine G_aload_n (i := 0) dX12_colours_30 rfl rfl ?_
      refine G_getI (v := h 81 15) fX12_57 rfl dX12_colours_31 (o81 hT) rfl ?_
      refine G_if_eq (tgt := 46) dX12_colours_34 (by decide) (by omega) (fun c_3 => ?_) (fun c_3 => ?_)
      · refine G_bipush dX12_colours_46 (by decide) ?_
        refine G_iretZ rfl dX12_colours_48 ?_
        exact ⟨(fun z => by first | exact ⟨rfl, rfl⟩ | exact absurd (by omega) z), (fun z => by first | (intro _; exact ⟨rfl, rfl⟩) | (intro y; exact absurd (by omega) y) | exact absurd z (by omega)), (fun z => by first | exact absurd z (by omega) | (intro y; first | exact absurd y (by omega) | (intro _; exact ⟨rfl, rfl⟩))), fun z => by first | exact absurd z (by omega) | (intro y; first | exact absurd y (by omega) | (intro u; exact absurd (by omega) u))⟩
      · refine G_aload_n (i := 0) dX12_colours_37 rfl rfl ?_
        refine G_getI (v := h 81 1) fX12_13 rfl dX12_colours_38 (o81 hT) rfl ?_
        refine G_bipush dX12_colours_41 (by decide) ?_
        refine G_icmp_le (tgt := 49) dX12_colours_43 (by decide) (by omega) (by decide) (fun c_4 => ?_) (fun c_4 => ?_)
        · refine G_iconst dX12_colours_49 ?_
          refine G_istore_n (i := 3) (ls' := [some (.inr (some 81)), some (.inl c), some (.inl w), some (.inl 1), none, none, none, none, none]) dX12_colours_50 rfl (by decide) rfl ?_
          refine G_iconst dX12_colours_51 ?_
          refine G_istore (ls' := [some (.inr (some 81)), some (.inl c), some (.inl w), some (.inl 1), some (.inl 0), none, none, none, none]) dX12_colours_52 (by decide) rfl ?_
          obtain ⟨C, rfl⟩ : ∃ C : Nat, c = (C : Int) := ⟨c.toNat, by omega⟩
          obtain ⟨n, hn⟩ : ∃ n : Nat, h 81 1 = (n : Int) := ⟨(h 81 1).toNat, by omega⟩
          have hN := f_pw (C := C) (i := n) (n := n) (by omega) (Nat.le_refl _) (by omega)
          refine G_mono (Z := Zi τ fun v h' => ∃ a, f_am (f_cw h C n) (C ^ n) a ∧ v = (if w < 0 then f_cw h C n a else f_dg C n a w.toNat) ∧ FRc h h' ∧ ∀ j : Nat, j < 9 → 0 ≤ h' 100 j ∧ h' 100 j ≤ 7) ?_ ?_
          · rintro r τ' h' ⟨q1, v, q2, q3⟩
            refine ⟨q1, v, q2, fun z => absurd (by omega) z, fun _ z => absurd (by omega) z, fun _ _ z => absurd z (by omega), fun _ _ _ => ?_⟩
            rw [hn, show ((C : Int)).toNat = C from rfl, show ((n : Int)).toNat = n from rfl]
            exact q3
          suffices K73 : G_ mX12_colours (d + 3) 0 0 73 [some (.inr (some 81)), some (.inl (C : Int)), some (.inl w), some (.inl ((C ^ n : Nat) : Int)), none, none, none, none, none] [] τ h (Zi τ fun v h' => ∃ a, f_am (f_cw h C n) (C ^ n) a ∧ v = (if w < 0 then f_cw h C n a else f_dg C n a w.toNat) ∧ FRc h h' ∧ ∀ j : Nat, j < 9 → 0 ≤ h' 100 j ∧ h' 100 j ≤ 7) by
            have := m_col_A d τ h hT _ C n w (by omega) (by omega) K73 _ 0 (Nat.lt_succ_self _) (Nat.zero_le _)
            rw [Nat.pow_zero] at this
            exact this
          refine G_sipush dX12_colours_73 (by decide) ?_
          refine G_istore (ls' := [some (.inr (some 81)), some (.inl (C : Int)), some (.inl w), some (.inl ((C ^ n : Nat) : Int)), some (.inl 1000), none, none, none, none]) dX12_colours_76 (by decide) rfl ?_
          refine G_iconst dX12_colours_78 ?_
          refine G_istore (ls' := [some (.inr (some 81)), some (.inl (C : Int)), some (.inl w), some (.inl ((C ^ n : Nat) : Int)), some (.inl 1000), some (.inl 0), none, none, none]) dX12_colours_79 (by decide) rfl ?_
          exact m_col_L d τ h hT C n w (by omega) (by omega) (by omega) hN x (fun j z j1 j2 => by have := x.t7_ j z; have := x.t8_ j z; have := f_top_n x.cr_ ok (r := h 97 j) (p := h 98 j) (by omega) (by omega) (by have := x.r_; omega); omega) _ h 0 1000 (Nat.lt_succ_self _) (Nat.zero_le _) ⟨FRc.rf, h100, Or.inl ⟨rfl, rfl⟩⟩
        · refine G_bipush dX12_colours_46 (by decide) ?_
          refine G_iretZ rfl dX12_colours_48 ?_
          exact ⟨(fun z => by first | exact ⟨rfl, rfl⟩ | exact absurd (by omega) z), (fun z => by first | (intro _; exact ⟨rfl, rfl⟩) | (intro y; exact absurd (by omega) y) | exact absurd z (by omega)), (fun z => by first | exact absurd z (by omega) | (intro y; first | exact absurd y (by omega) | (intro _; exact ⟨rfl, rfl⟩))), fun z => by first | exact absurd z (by omega) | (intro y; first | exact absurd y (by omega) | (intro u; exact absurd (by omega) u))⟩
    · refine G_bipush dX12_colours_27 (by decide) ?_
      refine G_iretZ rfl dX12_colours_29 ?_
      exact ⟨(fun z => by first | exact ⟨rfl, rfl⟩ | exact absurd (by omega) z), (fun z => by first | (intro _; exact ⟨rfl, rfl⟩) | (intro y; exact absurd (by omega) y) | exact absurd z (by omega)), (fun z => by first | exact absurd z (by omega) | (intro y; first | exact absurd y (by omega) | (intro _; exact ⟨rfl, rfl⟩))), fun z => by first | exact absurd z (by omega) | (intro y; first | exact absurd y (by omega) | (intro u; exact absurd (by omega) u))⟩
  · refine G_iconst dX12_colours_15 ?_
    refine G_iretZ rfl dX12_colours_16 ?_
    exact ⟨(fun z => by first | exact ⟨rfl, rfl⟩ | exact absurd (by omega) z), (fun z => by first | (intro _; exact ⟨rfl, rfl⟩) | (intro y; exact absurd (by omega) y) | exact absurd z (by omega)), (fun z => by first | exact absurd z (by omega) | (intro y; first | exact absurd y (by omega) | (intro _; exact ⟨rfl, rfl⟩))), fun z => by first | exact absurd z (by omega) | (intro y; first | exact absurd y (by omega) | (intro u; exact absurd (by omega) u))⟩

