/-! the reference: fewest, the whole -/
theorem c_eq_2 (o : Nat → Int) (x : Int) : ∀ (m p q : Nat), p < q → q < m → o p = x → o q = x → 2 ≤ c_eq o x m
  | 0, _, _, _, h, _, _ => absurd h (Nat.not_lt_zero _)
  | m + 1, p, q, hpq, h, e1, e2 => by
    unfold c_eq
    rcases Nat.lt_succ_iff_lt_or_eq.mp h with z | z
    · have := c_eq_2 o x m p q hpq z e1 e2; omega
    · subst z; rw [if_pos e2]; have := c_eq_h o x q p hpq e1; omega
theorem onto_P {n : Nat} {o : Nat → Int} (r : ∀ p : Nat, p < n → 0 ≤ o p ∧ o p < n) (on : ∀ k : Nat, k < n → ∃ q : Nat, q < n ∧ o q = (k : Int)) : isP n o := by
  have up : ∀ k : Nat, k ≤ n → k ≤ c_lt o k n := fun k => by
    induction k with
    | zero => intro _; exact Nat.zero_le _
    | succ k ih =>
      intro hk
      obtain ⟨q, q1, q2⟩ := on k (by omega)
      have := c_eq_h o k n q q1 q2
      have := c_lt_s o k n
      rw [show ((k + 1 : Nat) : Int) = (k : Int) + 1 by omega]
      have := ih (by omega)
      omega
  have dn : ∀ j k : Nat, k + j = n → c_lt o k n + j ≤ n := fun j => by
    induction j with
    | zero => intro k _; exact c_lt_le o k n
    | succ j ih =>
      intro k hk
      obtain ⟨q, q1, q2⟩ := on k (by omega)
      have := c_eq_h o k n q q1 q2
      have e := c_lt_s o k n
      have i2 := ih (k + 1) (by omega)
      rw [show ((k + 1 : Nat) : Int) = (k : Int) + 1 by omega] at i2
      omega
  have one : ∀ k : Nat, k < n → c_eq o k n ≤ 1 := fun k hk => by
    have a := up k (by omega)
    have b := dn (n - (k + 1)) (k + 1) (by omega)
    rw [show ((k + 1 : Nat) : Int) = (k : Int) + 1 by omega] at b
    have := c_lt_s o k n
    omega
  refine ⟨r, fun p q hp hq e => ?_⟩
  have rp := r p hp
  have o1 := one (o p).toNat (by omega)
  rw [show (((o p).toNat : Nat) : Int) = o p by omega] at o1
  rcases Nat.lt_trichotomy p q with z | z | z
  · have := c_eq_2 o (o p) n p q z hq rfl e.symm; omega
  · exact z
  · have := c_eq_2 o (o p) n q p z hp e.symm rfl; omega
theorem u_all : ∀ n : Nat, n < 8 → ∀ u : Nat, u < 128 → ((u : Int) = b_shl 1 (n : Int) - 1 ↔ ∀ k : Nat, k < 7 → (u.testBit k = decide (k < n))) := by decide +kernel
theorem u_shl : ∀ n : Nat, n < 8 → 0 ≤ b_shl 1 (n : Int) ∧ b_shl 1 (n : Int) ≤ 128 := by decide +kernel
def g_fst (n : Nat) (D : (Nat → Int) → Int) (o : Nat → Int) : Nat → Nat → Nat
  | 0, p => p
  | k + 1, p => if D (f_sw n o p) = D o - 1 then p else g_fst n D o k (p + 1)
abbrev g_p (n : Nat) (D : (Nat → Int) → Int) (o : Nat → Int) : Nat := g_fst n D o n 0
theorem g_fst_is {n : Nat} {D : (Nat → Int) → Int} {o : Nat → Int} {p : Nat} (e : D (f_sw n o p) = D o - 1) : ∀ (k q : Nat), q ≤ p → p < q + k → (∀ j : Nat, q ≤ j → j < p → D (f_sw n o j) ≠ D o - 1) → g_fst n D o k q = p
  | 0, q, h1, h2, _ => absurd h2 (by omega)
  | k + 1, q, h1, h2, h3 => by
    show (if D (f_sw n o q) = D o - 1 then q else g_fst n D o k (q + 1)) = p
    by_cases z : q = p
    · subst z; rw [if_pos e]
    · rw [if_neg (h3 q (by omega) (by omega))]
      exact g_fst_is e k (q + 1) (by omega) (by omega) (fun j j1 j2 => h3 j (by omega) j2)
def g_at (n : Nat) (D : (Nat → Int) → Int) (o : Nat → Int) : Nat → (Nat → Int)
  | 0 => o
  | k + 1 => f_sw n (g_at n D o k) (g_p n D (g_at n D o k))
theorem g_p_ok {n : Nat} {D : (Nat → Int) → Int} {o : Nat → Int} (bf : BF n D) (ho : isP n o) (hd : 0 < D o) : g_p n D o < n ∧ D (f_sw n o (g_p n D o)) = D o - 1 := by
  have q : ∀ (k p : Nat), p + k = n → (∃ j : Nat, p ≤ j ∧ j < n ∧ D (f_sw n o j) = D o - 1) → g_fst n D o k p < n ∧ D (f_sw n o (g_fst n D o k p)) = D o - 1 := fun k => by
    induction k with
    | zero => rintro p hp ⟨j, j1, j2, _⟩; omega
    | succ k ih =>
      rintro p hp ⟨j, j1, j2, j3⟩
      show (if D (f_sw n o p) = D o - 1 then p else g_fst n D o k (p + 1)) < n ∧ D (f_sw n o (if D (f_sw n o p) = D o - 1 then p else g_fst n D o k (p + 1))) = D o - 1
      by_cases z : D (f_sw n o p) = D o - 1
      · rw [if_pos z]; exact ⟨by omega, z⟩
      · rw [if_neg z]
        refine ih (p + 1) (by omega) ⟨j, ?_, j2, j3⟩
        rcases Nat.lt_or_ge p j with y | y
        · omega
        · obtain rfl : j = p := by omega
          exact absurd j3 z
  obtain ⟨p, hp, e⟩ := bf.2.2.2 o ho hd
  exact q n 0 (by omega) ⟨p, Nat.zero_le _, hp, e⟩
theorem g_at_ok {n : Nat} {D : (Nat → Int) → Int} {o : Nat → Int} (hn : 2 ≤ n) (bf : BF n D) (ho : isP n o) : ∀ k : Nat, (k : Int) ≤ D o → isP n (g_at n D o k) ∧ D (g_at n D o k) = D o - k
  | 0, _ => ⟨ho, by show D o = D o - 0; omega⟩
  | k + 1, hk => by
    obtain ⟨a, b⟩ := g_at_ok hn bf ho k (by omega)
    obtain ⟨c, e⟩ := g_p_ok bf a (by omega)
    refine ⟨f_sw_P a c hn, ?_⟩
    show D (f_sw n (g_at n D o k) (g_p n D (g_at n D o k))) = _
    rw [e, b]; omega
def FRw (h g : HT) : Prop := ∀ b j : Nat, ¬ (112 ≤ b ∧ b ≤ 117) → (b = 81 → j ≠ 49) → g b j = h b j
theorem FRw.rf {h : HT} : FRw h h := fun _ _ _ _ => rfl
theorem FRw.tr {h g k : HT} (x : FRw h g) (y : FRw g k) : FRw h k := fun a i p q => (y a i p q).trans (x a i p q)
theorem FRo.w {h g : HT} (x : FRo h g) : FRw h g := fun b j q _ => x b j (fun e => q (by omega)) (fun e => q (by omega)) (fun e => q (by omega)) (fun e => q (by omega))
theorem m_few_I (d : Nat) (τ : TT) (h : HT) (hT : TK τ) (n : Nat) (hn : h 81 1 = n ∧ 3 ≤ n ∧ n ≤ 7) (D : (Nat → Int) → Int) (bf : BF n D) (ho : isP n (h 86)) (t w : Int) (hw : -1 ≤ w ∧ w ≤ 2147483647) (k : Nat) (hk : (k : Int) < D (h 86)) (K : ∀ (g : HT), (∀ q : Nat, q < n → g 112 q = g_at n D (h 86) (k + 1) q) → (∀ o : Nat → Int, isP n o → g 114 (rk_ n o) = D o) → g 81 49 = (k : Int) + 1 → (∀ i : Nat, i < k + 1 → g 116 i = ((g_p n D (g_at n D (h 86) i) : Nat) : Int)) → FRw h g → G_ mX12_fewest (d + 3) 0 0 192 [some (.inr (some 81)), some (.inl t), some (.inl w), none, none, none] [] τ g (Zi τ fun v h' => v = (if w = -1 then D (h 86) else if w < D (h 86) then ((g_p n D (g_at n D (h 86) w.toNat) : Nat) : Int) else -1) ∧ FRw h h')) : ∀ (n_ : Nat) (g : HT) (p : Nat), n - p < n_ → p < n → (∀ q : Nat, q < n → g 112 q = f_sw n (g_at n D (h 86) k) p q) → (∀ o : Nat → Int, isP n o → g 114 (rk_ n o) = D o) → g 81 49 = (k : Int) → (∀ i : Nat, i < k → g 116 i = ((g_p n D (g_at n D (h 86) i) : Nat) : Int)) → FRw h g → (∀ j : Nat, j < p → D (f_sw n (g_at n D (h 86) k) j) ≠ D (g_at n D (h 86) k) - 1) → G_ mX12_fewest (d + 3) 0 0 235 [some (.inr (some 81)), some (.inl t), some (.inl w), none, some (.inl (D (g_at n D (h 86) k))), some (.inl (p : Int))] [] τ g (Zi τ fun v h' => v = (if w = -1 then D (h 86) else if w < D (h 86) then ((g_p n D (g_at n D (h 86) w.toNat) : Nat) : Int) else -1) ∧ FRw h h') := by
  intro n_
  induction n_ with
  | zero => intro g p hm_; exact absurd hm_ (Nat.not_lt_zero _)
  | succ n_ ih =>
    intro g p hm_ hp ord hfar hk49 hro frm hno
    have X1 : g 81 1 = n := by rw [frm 81 1 (by decide) (by decide)]; exact hn.1
    have hoc := g_at_ok (by omega) bf ho k (by omega)
    have hDr := bf.2.1 _ hoc.1
    have PX := f_sw_P hoc.1 hp (by omega)
    have PO : isP n (g 112) := isP_c (fun q hq => (ord q hq).symm) PX
    have hDx := bf.2.1 _ PX
    have hR := rk_N (n := n) (f_sw n (g_at n D (h 86) k) p)
    have hPb := f_P_b n (by omega)
    have hD40 := bf.2.1 _ ho
    refine G_aload_n (i := 0) dX12_fewest_235 rfl rfl ?_
    refine G_getR fX12_150 rfl dX12_fewest_236 (o81 hT) (r81_46 hT) ?_
    refine G_aload_n (i := 0) dX12_fewest_239 rfl rfl ?_
    refine G_aload_n (i := 0) dX12_fewest_240 rfl rfl ?_
    refine G_getR fX12_144 rfl dX12_fewest_241 (o81 hT) (r81_44 hT) ?_
    refine G_cVq (as := [.inr (some 112)]) qX12_300 ((show rk_ n (g 112) = rk_ n (f_sw n (g_at n D (h 86) k) p) from f_rk_c ord n (Nat.le_refl _)) ▸ m_rank (d + 2) τ g hT n ⟨X1, hn.2⟩ 112 (o112 hT) PO) rfl rfl (Nat.le_of_ble_eq_true rfl) (o81 hT) dX12_fewest_244 ?_
    refine G_iald (v := D (f_sw n (g_at n D (h 86) k) p)) dX12_fewest_247 (o114 hT) (by omega) ((by rw [Int.toNat_natCast]; exact hfar _ PX)) ?_
    refine G_iload dX12_fewest_248 rfl ?_
    refine G_iconst dX12_fewest_250 ?_
    refine G_isub dX12_fewest_251 ?_
    refine G_icmp_eq (tgt := 281) dX12_fewest_252 (by decide) (by omega) (by omega) (fun c_1 => ?_) (fun c_1 => ?_)
    · refine G_aload_n (i := 0) dX12_fewest_281 rfl rfl ?_
      refine G_getR fX12_156 rfl dX12_fewest_282 (o81 hT) (r81_48 hT) ?_
      refine G_aload_n (i := 0) dX12_fewest_285 rfl rfl ?_
      refine G_getI (v := (k : Int)) fX12_159 rfl dX12_fewest_286 (o81 hT) (hk49) ?_
      refine G_iload dX12_fewest_289 rfl ?_
      refine G_iastk (((k : Int)).toNat) dX12_fewest_291 (o116 hT) (by omega) rfl ?_
      refine G_aload_n (i := 0) dX12_fewest_292 rfl rfl ?_
      refine G_dup dX12_fewest_293 ?_
      refine G_getI (v := (k : Int)) fX12_159 rfl dX12_fewest_294 (o81 hT) ((hs_na (by decide)).trans (hk49)) ?_
      refine G_iconst dX12_fewest_297 ?_
      refine G_iadd dX12_fewest_298 ?_
      refine G_putI fX12_159 dX12_fewest_299 (o81 hT) ?_
      refine G_goto (tgt := 192) dX12_fewest_302 (by decide) ?_
      refine G_lsub (ls' := [some (.inr (some 81)), some (.inl t), some (.inl w), none, none, none]) (LS_same (LS_same (LS_same (LS_none (LS_none (LS_none LS_nil)))))) ?_
      have ep : g_p n D (g_at n D (h 86) k) = p := g_fst_is (by omega) n 0 (Nat.zero_le _) (by omega) (fun j _ j2 => hno j j2)
      refine K _ (fun q hq => ?_) (fun o oo => ?_) ?_ (fun i hi => ?_) (frm.tr (fun b j b1 b2 => ?_))
      · rw [hs_na (by decide), hs_na (by decide), ord q hq]; show _ = f_sw n (g_at n D (h 86) k) (g_p n D (g_at n D (h 86) k)) q; rw [ep]
      · rw [hs_na (by decide), hs_na (by decide)]; exact hfar o oo
      · exact hs_eq
      · rw [hs_na (by decide)]; rcases Nat.lt_succ_iff_lt_or_eq.mp hi with z | z; (rw [hs_ni (by omega)]; exact hro i z); (subst z; rw [show ((i : Int)).toNat = i from rfl, hs_eq, ep])
      · unfold hs_; rw [if_neg (fun z => b2 z.1 z.2), if_neg (fun z => b1 (by omega))]
    · refine G_aload_n (i := 0) dX12_fewest_255 rfl rfl ?_
      refine G_aload_n (i := 0) dX12_fewest_256 rfl rfl ?_
      refine G_getR fX12_144 rfl dX12_fewest_257 (o81 hT) (r81_44 hT) ?_
      refine G_iload dX12_fewest_260 rfl ?_
      refine G_cVv (as := [.inr (some 112), .inl (p : Int)]) qX12_307 (m_swap (d + 1) τ g hT n ⟨X1, hn.2⟩ 112 (o112 hT) p (by omega) (by decide)) rfl rfl (Nat.le_of_ble_eq_true rfl) (o81 hT) dX12_fewest_262 (fun g1 e1 => ?_)
      have f1 : ∀ b j : Nat, b ≠ 112 → g1 b j = g b j := fun b j hb => by rw [e1, hf_na hb]
      have s1 : ∀ q : Nat, q < n → g1 112 q = (g_at n D (h 86) k) q := fun q hq => by rw [e1, hf_in ⟨Nat.zero_le _, hq⟩, f_sw_c (by omega) ord q hq]; exact f_sw_sw (by omega) (by omega) q
      have hp1 : p + 1 < n := by
        obtain ⟨j, j1, j2⟩ := bf.2.2.2 (g_at n D (h 86) k) hoc.1 (by omega)
        rcases Nat.lt_trichotomy j p with z | z | z
        · exact absurd j2 (hno j z)
        · subst z; exact absurd j2 (by omega)
        · omega
      refine G_iinc (ls' := [some (.inr (some 81)), some (.inl t), some (.inl w), none, some (.inl (D (g_at n D (h 86) k))), some (.inl ((p : Int) + 1))]) dX12_fewest_265 (by decide) rfl rfl ?_
      refine G_aload_n (i := 0) dX12_fewest_268 rfl rfl ?_
      refine G_aload_n (i := 0) dX12_fewest_269 rfl rfl ?_
      refine G_getR fX12_144 rfl dX12_fewest_270 (o81 hT) (r81_44 hT) ?_
      refine G_iload dX12_fewest_273 rfl ?_
      refine G_cVv (as := [.inr (some 112), .inl ((p : Int) + 1)]) qX12_307 (m_swap (d + 1) τ g1 hT n ⟨(f1 81 1 (by decide)).trans X1, hn.2⟩ 112 (o112 hT) (p + 1) (by omega) (by decide)) rfl rfl (Nat.le_of_ble_eq_true rfl) (o81 hT) dX12_fewest_275 (fun g2 e2 => ?_)
      have f2 : ∀ b j : Nat, b ≠ 112 → g2 b j = g b j := fun b j hb => by rw [e2, hf_na hb, f1 b j hb]
      have s2 : ∀ q : Nat, q < n → g2 112 q = f_sw n (g_at n D (h 86) k) (p + 1) q := fun q hq => by rw [e2, hf_in ⟨Nat.zero_le _, hq⟩]; exact f_sw_c (by omega) s1 q hq
      refine G_goto (tgt := 235) dX12_fewest_278 (by decide) ?_
      exact ih g2 (p + 1) (by omega) hp1 s2 (fun o oo => by rw [f2 114 _ (by decide)]; exact hfar o oo) ((f2 81 49 (by decide)).trans hk49) (fun i hi => by rw [f2 116 i (by decide)]; exact hro i hi) (frm.tr (fun b j b1 b2 => f2 b j (by omega))) (fun j hj => by rcases Nat.lt_succ_iff_lt_or_eq.mp hj with z | z; exact hno j z; (subst z; omega))

theorem m_few_L (d : Nat) (τ : TT) (h : HT) (hT : TK τ) (n : Nat) (hn : h 81 1 = n ∧ 3 ≤ n ∧ n ≤ 7) (D : (Nat → Int) → Int) (bf : BF n D) (ho : isP n (h 86)) (t w : Int) (hw : -1 ≤ w ∧ w ≤ 2147483647) : ∀ (n_ : Nat) (g : HT) (k : Nat), (D (h 86)).toNat - k < n_ → (k : Int) ≤ D (h 86) → (∀ q : Nat, q < n → g 112 q = (g_at n D (h 86) k) q) → (∀ o : Nat → Int, isP n o → g 114 (rk_ n o) = D o) → g 81 49 = (k : Int) → (∀ i : Nat, i < k → g 116 i = ((g_p n D (g_at n D (h 86) i) : Nat) : Int)) → FRw h g → G_ mX12_fewest (d + 3) 0 0 192 [some (.inr (some 81)), some (.inl t), some (.inl w), none, none, none] [] τ g (Zi τ fun v h' => v = (if w = -1 then D (h 86) else if w < D (h 86) then ((g_p n D (g_at n D (h 86) w.toNat) : Nat) : Int) else -1) ∧ FRw h h') := by
  intro n_
  induction n_ with
  | zero => intro g k hm_; exact absurd hm_ (Nat.not_lt_zero _)
  | succ n_ ih =>
    intro g k hm_ hk ord hfar hk49 hro frm
    have X1 : g 81 1 = n := by rw [frm 81 1 (by decide) (by decide)]; exact hn.1
    have hoc := g_at_ok (by omega) bf ho k (by omega)
    have hDr := bf.2.1 _ hoc.1
    have PX := hoc.1
    have PO : isP n (g 112) := isP_c (fun q hq => (ord q hq).symm) PX
    have hR := rk_N (n := n) (g_at n D (h 86) k)
    have hPb := f_P_b n (by omega)
    have hD40 := bf.2.1 _ ho
    refine G_aload_n (i := 0) dX12_fewest_192 rfl rfl ?_
    refine G_getR fX12_150 rfl dX12_fewest_193 (o81 hT) (r81_46 hT) ?_
    refine G_aload_n (i := 0) dX12_fewest_196 rfl rfl ?_
    refine G_aload_n (i := 0) dX12_fewest_197 rfl rfl ?_
    refine G_getR fX12_144 rfl dX12_fewest_198 (o81 hT) (r81_44 hT) ?_
    refine G_cVq (as := [.inr (some 112)]) qX12_300 ((show rk_ n (g 112) = rk_ n (g_at n D (h 86) k) from f_rk_c ord n (Nat.le_refl _)) ▸ m_rank (d + 2) τ g hT n ⟨X1, hn.2⟩ 112 (o112 hT) PO) rfl rfl (Nat.le_of_ble_eq_true rfl) (o81 hT) dX12_fewest_201 ?_
    refine G_iald (v := D (g_at n D (h 86) k)) dX12_fewest_204 (o114 hT) (by omega) ((by rw [Int.toNat_natCast]; exact hfar _ PX)) ?_
    refine G_if_le (tgt := 305) dX12_fewest_205 (by decide) (by omega) (fun c_1 => ?_) (fun c_1 => ?_)
    · refine G_iload_n (i := 2) dX12_fewest_305 rfl rfl ?_
      refine G_iconst dX12_fewest_306 ?_
      refine G_icmp_ne (tgt := 317) dX12_fewest_307 (by decide) (by omega) (by decide) (fun c_2 => ?_) (fun c_2 => ?_)
      · refine G_iload_n (i := 2) dX12_fewest_317 rfl rfl ?_
        refine G_aload_n (i := 0) dX12_fewest_318 rfl rfl ?_
        refine G_getI (v := (k : Int)) fX12_159 rfl dX12_fewest_319 (o81 hT) (hk49) ?_
        refine G_icmp_ge (tgt := 334) dX12_fewest_322 (by decide) (by omega) (by omega) (fun c_3 => ?_) (fun c_3 => ?_)
        · refine G_iconst dX12_fewest_334 ?_
          refine G_iretZ rfl dX12_fewest_335 ?_
          obtain rfl : k = (D (h 86)).toNat := by omega
          refine ⟨?_, frm⟩
          rw [if_neg (by omega)]; first | (rw [if_pos (by omega)]) | (rw [if_neg (by omega)])
        · refine G_aload_n (i := 0) dX12_fewest_325 rfl rfl ?_
          refine G_getR fX12_156 rfl dX12_fewest_326 (o81 hT) (r81_48 hT) ?_
          refine G_iload_n (i := 2) dX12_fewest_329 rfl rfl ?_
          refine G_iald (v := ((g_p n D (g_at n D (h 86) ((w).toNat)) : Nat) : Int)) dX12_fewest_330 (o116 hT) (by omega) (hro ((w).toNat) (by omega)) ?_
          refine G_goto (tgt := 335) dX12_fewest_331 (by decide) ?_
          refine G_iretZ rfl dX12_fewest_335 ?_
          obtain rfl : k = (D (h 86)).toNat := by omega
          refine ⟨?_, frm⟩
          rw [if_neg (by omega)]; first | (rw [if_pos (by omega)]) | (rw [if_neg (by omega)])
      · refine G_aload_n (i := 0) dX12_fewest_310 rfl rfl ?_
        refine G_getI (v := (k : Int)) fX12_159 rfl dX12_fewest_311 (o81 hT) (hk49) ?_
        refine G_goto (tgt := 335) dX12_fewest_314 (by decide) ?_
        refine G_iretZ rfl dX12_fewest_335 ?_
        obtain rfl : k = (D (h 86)).toNat := by omega
        refine ⟨?_, frm⟩
        rw [if_pos (by omega)]; omega
    · refine G_aload_n (i := 0) dX12_fewest_208 rfl rfl ?_
      refine G_getR fX12_150 rfl dX12_fewest_209 (o81 hT) (r81_46 hT) ?_
      refine G_aload_n (i := 0) dX12_fewest_212 rfl rfl ?_
      refine G_aload_n (i := 0) dX12_fewest_213 rfl rfl ?_
      refine G_getR fX12_144 rfl dX12_fewest_214 (o81 hT) (r81_44 hT) ?_
      refine G_cVq (as := [.inr (some 112)]) qX12_300 ((show rk_ n (g 112) = rk_ n (g_at n D (h 86) k) from f_rk_c ord n (Nat.le_refl _)) ▸ m_rank (d + 2) τ g hT n ⟨X1, hn.2⟩ 112 (o112 hT) PO) rfl rfl (Nat.le_of_ble_eq_true rfl) (o81 hT) dX12_fewest_217 ?_
      refine G_iald (v := D (g_at n D (h 86) k)) dX12_fewest_220 (o114 hT) (by omega) ((by rw [Int.toNat_natCast]; exact hfar _ PX)) ?_
      refine G_istore (ls' := [some (.inr (some 81)), some (.inl t), some (.inl w), none, some (.inl (D (g_at n D (h 86) k))), none]) dX12_fewest_221 (by decide) rfl ?_
      refine G_iconst dX12_fewest_223 ?_
      refine G_istore (ls' := [some (.inr (some 81)), some (.inl t), some (.inl w), none, some (.inl (D (g_at n D (h 86) k))), some (.inl 0)]) dX12_fewest_224 (by decide) rfl ?_
      refine G_aload_n (i := 0) dX12_fewest_226 rfl rfl ?_
      refine G_aload_n (i := 0) dX12_fewest_227 rfl rfl ?_
      refine G_getR fX12_144 rfl dX12_fewest_228 (o81 hT) (r81_44 hT) ?_
      refine G_iconst dX12_fewest_231 ?_
      refine G_cVv (as := [.inr (some 112), .inl 0]) qX12_307 (m_swap (d + 1) τ g hT n ⟨X1, hn.2⟩ 112 (o112 hT) 0 (by omega) (by decide)) rfl rfl (Nat.le_of_ble_eq_true rfl) (o81 hT) dX12_fewest_232 (fun g1 e1 => ?_)
      have f1 : ∀ b j : Nat, b ≠ 112 → g1 b j = g b j := fun b j hb => by rw [e1, hf_na hb]
      have s1 : ∀ q : Nat, q < n → g1 112 q = f_sw n (g_at n D (h 86) k) 0 q := fun q hq => by rw [e1, hf_in ⟨Nat.zero_le _, hq⟩]; exact f_sw_c (by omega) ord q hq
      refine G_lsub (ls' := [some (.inr (some 81)), some (.inl t), some (.inl w), none, some (.inl (D (g_at n D (h 86) k))), some (.inl 0)]) (LS_same (LS_same (LS_same (LS_none (LS_same (LS_same LS_nil)))))) (m_few_I d τ h hT n hn D bf ho t w hw k (by omega) (fun g3 a1 a2 a3 a4 a5 => ih g3 (k + 1) (by omega) (by omega) a1 a2 (by rw [a3]; omega) a4 a5) _ g1 0 (Nat.lt_succ_self _) (by omega) s1 (fun o oo => by rw [f1 114 _ (by decide)]; exact hfar o oo) ((f1 81 49 (by decide)).trans hk49) (fun i hi => by rw [f1 116 i (by decide)]; exact hro i hi) (frm.tr (fun b j b1 b2 => f1 b j (by omega))) (fun j hj => absurd hj (Nat.not_lt_zero _)))

theorem m_few_H (d : Nat) (τ : TT) (h : HT) (hT : TK τ) (Z : ZT) (n : Nat) (hn : h 81 1 = n ∧ 3 ≤ n ∧ n ≤ 7) (t w : Int) (K : G_ mX12_fewest (d + 3) 0 0 187 [some (.inr (some 81)), some (.inl t), some (.inl w), none, none, none] [] τ (hf_ h 112 0 n (h 86)) (Z)) : ∀ (n_ : Nat) (i : Nat), n - i < n_ → i ≤ n → G_ mX12_fewest (d + 3) 0 0 158 [some (.inr (some 81)), some (.inl t), some (.inl w), none, some (.inl (i : Int)), none] [] τ (hf_ h 112 0 i (h 86)) (Z) := by
  intro n_
  induction n_ with
  | zero => intro i hm_; exact absurd hm_ (Nat.not_lt_zero _)
  | succ n_ ih =>
    intro i hm_ hi
    refine G_iload dX12_fewest_158 rfl ?_
    refine G_aload_n (i := 0) dX12_fewest_160 rfl rfl ?_
    refine G_getI (v := h 81 1) fX12_13 rfl dX12_fewest_161 (o81 hT) (hf_na (by decide)) ?_
    refine G_icmp_ge (tgt := 187) dX12_fewest_164 (by decide) (by omega) (by omega) (fun c_1 => ?_) (fun c_1 => ?_)
    · refine G_lsub (ls' := [some (.inr (some 81)), some (.inl t), some (.inl w), none, none, none]) (LS_same (LS_same (LS_same (LS_none (LS_none (LS_none LS_nil)))))) ?_
      obtain rfl : i = n := by omega
      exact K
    · refine G_aload_n (i := 0) dX12_fewest_167 rfl rfl ?_
      refine G_getR fX12_144 rfl dX12_fewest_168 (o81 hT) (r81_44 hT) ?_
      refine G_iload dX12_fewest_171 rfl ?_
      refine G_aload_n (i := 0) dX12_fewest_173 rfl rfl ?_
      refine G_getR fX12_29 rfl dX12_fewest_174 (o81 hT) (r81_6 hT) ?_
      refine G_iload dX12_fewest_177 rfl ?_
      refine G_iald (v := h 86 i) dX12_fewest_179 (o86 hT) (by omega) (hf_na (by decide)) ?_
      refine G_iastk i dX12_fewest_180 (o112 hT) (by omega) rfl ?_
      refine G_iinc (ls' := [some (.inr (some 81)), some (.inl t), some (.inl w), none, some (.inl ((i : Int) + 1)), none]) dX12_fewest_181 (by decide) rfl rfl ?_
      refine G_goto (tgt := 158) dX12_fewest_184 (by decide) ?_
      rw [hf_snoc (Nat.zero_le _) rfl]
      exact ih (i + 1) (by omega) (by omega)

def f_gl (h : HT) (t : Int) (p : Nat) : Int := h 124 (60 * t.toNat + p)
def UQ (h : HT) (t : Int) (n u p : Nat) : Prop := u < 128 ∧ (∀ k : Nat, u.testBit k = true ↔ ∃ q : Nat, q < p ∧ f_gl h t q = (k : Int)) ∧ ∀ q : Nat, q < p → 0 ≤ f_gl h t q ∧ f_gl h t q < n
theorem UQ_s {h : HT} {t : Int} {n u p k : Nat} (x : UQ h t n u p) (hn : n ≤ 7) (hk : k < n) (e : f_gl h t p = (k : Int)) : UQ h t n (u ||| 2 ^ k) (p + 1) := by
  obtain ⟨x1, x2, x3⟩ := x
  refine ⟨(u_or u x1 k (by omega)).2, fun j => ?_, fun q hq => ?_⟩
  · rw [u_set, Bool.or_eq_true, decide_eq_true_eq, x2 j]
    constructor
    · rintro (⟨q, q1, q2⟩ | z)
      · exact ⟨q, by omega, q2⟩
      · exact ⟨p, by omega, by rw [e, z]⟩
    · rintro ⟨q, q1, q2⟩
      rcases Nat.lt_succ_iff_lt_or_eq.mp q1 with z | z
      · left; exact ⟨q, z, q2⟩
      · subst z; right; omega
  · rcases Nat.lt_succ_iff_lt_or_eq.mp hq with z | z
    · exact x3 q z
    · subst z; omega
theorem UQ_end {h : HT} {t : Int} {n u : Nat} (x : UQ h t n u n) (hn : n ≤ 7) : ((u : Int) = b_shl 1 (n : Int) - 1) ↔ isP n (f_gl h t) := by
  obtain ⟨x1, x2, x3⟩ := x
  rw [u_all n (by omega) u x1]
  constructor
  · intro z
    refine onto_P x3 (fun k hk => (x2 k).mp ?_)
    rw [z k (by omega), decide_eq_true_eq]; exact hk
  · intro P k hk
    by_cases q : k < n
    · rw [decide_eq_true q]; exact (x2 k).mpr (isP_onto P k q)
    · rw [decide_eq_false q]
      rcases hb : u.testBit k with _ | _
      · rfl
      · obtain ⟨j, j1, j2⟩ := (x2 k).mp hb; have := x3 j j1; omega
theorem m_few_E (d : Nat) (τ : TT) (h : HT) (hT : TK τ) (n : Nat) (hn : h 81 1 = n ∧ 3 ≤ n ∧ n ≤ 7) (t w : Int) (hw : -1 ≤ w ∧ w ≤ 2147483647) (ho : isP n (h 86)) (D : (Nat → Int) → Int) (d1 : BF n D) (d2 : D (f_gl h t) = 0) (d3 : ∀ o : Nat → Int, isP n o → D o = 0 → ∀ q : Nat, q < n → o q = f_gl h t q) (P : isP n (f_gl h t)) (u : Nat) : G_ mX12_fewest (d + 3) 0 0 151 [some (.inr (some 81)), some (.inl t), some (.inl w), some (.inl (u : Int)), some (.inl (n : Int)), none] [] τ (hf_ h 113 0 n (f_gl h t)) (Zi τ fun v h' => v = (@ite Int (isP n (f_gl h t)) (Classical.propDecidable _) (if w = -1 then D (h 86) else if w < D (h 86) then ((g_p n D (g_at n D (h 86) w.toNat) : Nat) : Int) else -1) (-2)) ∧ FRw h h') := by
  have hg1 : ∀ q : Nat, q < n → (hf_ h 113 0 n (f_gl h t)) 113 q = f_gl h t q := fun q hq => hf_in ⟨Nat.zero_le _, hq⟩
  refine G_aload_n (i := 0) dX12_fewest_151 rfl rfl ?_
  refine G_cVv (as := []) qX12_313 (m_findFar d τ (hf_ h 113 0 n (f_gl h t)) hT n ⟨(hf_na (by decide)).trans hn.1, hn.2⟩ D d1 (isP_c (fun q hq => (hg1 q hq).symm) P) (by rw [d1.1 _ _ hg1]; exact d2) (fun o ho hz q hq => by rw [hg1 q hq]; exact d3 o ho hz q hq)) rfl rfl (Nat.le_of_ble_eq_true rfl) (o81 hT) dX12_fewest_152 (fun g e1 => ?_)
  obtain ⟨hfar, fro⟩ := e1
  have frm : FRw h g := FRw.tr (fun b j b1 b2 => hf_na (by omega)) fro.w
  have X1 : g 81 1 = n := by rw [frm 81 1 (by decide) (by decide)]; exact hn.1
  have X86 : g 86 = h 86 := funext fun j => frm 86 j (by decide) (fun z => absurd z (by decide))
  refine G_iconst dX12_fewest_155 ?_
  refine G_istore (ls' := [some (.inr (some 81)), some (.inl t), some (.inl w), some (.inl (u : Int)), some (.inl 0), none]) dX12_fewest_156 (by decide) rfl ?_
  suffices K : G_ mX12_fewest (d + 3) 0 0 187 [some (.inr (some 81)), some (.inl t), some (.inl w), none, none, none] [] τ (hf_ g 112 0 n (g 86)) (Zi τ fun v h' => v = (@ite Int (isP n (f_gl h t)) (Classical.propDecidable _) (if w = -1 then D (h 86) else if w < D (h 86) then ((g_p n D (g_at n D (h 86) w.toNat) : Nat) : Int) else -1) (-2)) ∧ FRw h h') by
    have := m_few_H d τ g hT _ n ⟨X1, hn.2⟩ t w K _ 0 (Nat.lt_succ_self _) (Nat.zero_le _)
    rw [hf_nil] at this
    exact G_lsub (LS_same (LS_same (LS_same (LS_none (LS_same (LS_none LS_nil)))))) this
  refine G_aload_n (i := 0) dX12_fewest_187 rfl rfl ?_
  refine G_iconst dX12_fewest_188 ?_
  refine G_putI fX12_159 dX12_fewest_189 (o81 hT) ?_
  refine G_mono ?_ (m_few_L d τ h hT n hn D d1 ho t w hw _ (hs_ (hf_ g 112 0 n (g 86)) 81 49 0) 0 (Nat.lt_succ_self _) ((d1.2.1 _ ho).1) (fun q hq => ?_) (fun o oo => ?_) hs_eq (fun i hi => absurd hi (Nat.not_lt_zero _)) (frm.tr (fun b j b1 b2 => ?_)))
  · rintro r τ' h' ⟨q1, v, q2, q3, q4⟩
    refine ⟨q1, v, q2, ?_, q4⟩
    rw [if_pos P]; exact q3
  · rw [hs_na (by decide), hf_in ⟨Nat.zero_le _, hq⟩, X86]; rfl
  · rw [hs_na (by decide), hf_na (by decide)]; exact hfar o oo
  · unfold hs_; rw [if_neg (fun z => b2 z.1 z.2), hf_na (by omega)]

theorem m_few_G (d : Nat) (τ : TT) (h : HT) (hT : TK τ) (n : Nat) (hn : h 81 1 = n ∧ 3 ≤ n ∧ n ≤ 7) (x : MI h) (t w : Int) (hw : -1 ≤ w ∧ w ≤ 2147483647) (ht : 0 ≤ t ∧ t ≤ 5) (ho : isP n (h 86)) (D : (Nat → Int) → Int) (hD : isP n (f_gl h t) → BF n D ∧ D (f_gl h t) = 0 ∧ ∀ o : Nat → Int, isP n o → D o = 0 → ∀ q : Nat, q < n → o q = f_gl h t q) : ∀ (n_ : Nat) (u : Nat) (p : Nat), n - p < n_ → p ≤ n → UQ h t n u p → G_ mX12_fewest (d + 3) 0 0 79 [some (.inr (some 81)), some (.inl t), some (.inl w), some (.inl (u : Int)), some (.inl (p : Int)), none] [] τ (hf_ h 113 0 p (f_gl h t)) (Zi τ fun v h' => v = (@ite Int (isP n (f_gl h t)) (Classical.propDecidable _) (if w = -1 then D (h 86) else if w < D (h 86) then ((g_p n D (g_at n D (h 86) w.toNat) : Nat) : Int) else -1) (-2)) ∧ FRw h h') := by
  intro n_
  induction n_ with
  | zero => intro u p hm_; exact absurd hm_ (Nat.not_lt_zero _)
  | succ n_ ih =>
    intro u p hm_ hp uq
    have hu_ := uq.1
    refine G_iload dX12_fewest_79 rfl ?_
    refine G_aload_n (i := 0) dX12_fewest_81 rfl rfl ?_
    refine G_getI (v := h 81 1) fX12_13 rfl dX12_fewest_82 (o81 hT) (hf_na (by decide)) ?_
    refine G_icmp_ge (tgt := 136) dX12_fewest_85 (by decide) (by omega) (by omega) (fun c_1 => ?_) (fun c_1 => ?_)
    · refine G_iload_n (i := 3) dX12_fewest_136 rfl rfl ?_
      refine G_iconst dX12_fewest_137 ?_
      refine G_aload_n (i := 0) dX12_fewest_138 rfl rfl ?_
      refine G_getI (v := h 81 1) fX12_13 rfl dX12_fewest_139 (o81 hT) (hf_na (by decide)) ?_
      refine G_ishl dX12_fewest_142 ?_
      have hsh := u_shl n (by omega)
      rw [← hn.1] at hsh
      refine G_iconst dX12_fewest_143 ?_
      refine G_isub dX12_fewest_144 ?_
      refine G_icmp_eq (tgt := 151) dX12_fewest_145 (by decide) (by omega) (by omega) (fun c_2 => ?_) (fun c_2 => ?_)
      · obtain rfl : p = n := by omega
        have P := (UQ_end uq (by omega)).mp (by rw [← hn.1]; assumption)
        obtain ⟨d1, d2, d3⟩ := hD P
        refine G_lsub (ls' := [some (.inr (some 81)), some (.inl t), some (.inl w), some (.inl (u : Int)), some (.inl (p : Int)), none]) (LS_same (LS_same (LS_same (LS_same (LS_same (LS_none LS_nil)))))) ?_
        exact m_few_E d τ h hT p hn t w hw ho D d1 d2 d3 P u
      · refine G_bipush dX12_fewest_148 (by decide) ?_
        refine G_iretZ rfl dX12_fewest_150 ?_
        obtain rfl : p = n := by omega
        have e := UQ_end uq (by omega)
        refine ⟨?_, fun b j b1 b2 => hf_na (by omega)⟩
        rw [if_neg]
        intro z; have y := e.mpr z; rw [← hn.1] at y; contradiction
    · refine G_aload_n (i := 0) dX12_fewest_88 rfl rfl ?_
      refine G_getR fX12_189 rfl dX12_fewest_89 (o81 hT) (r81_59 hT) ?_
      refine G_bipush dX12_fewest_92 (by decide) ?_
      refine G_iload_n (i := 1) dX12_fewest_94 rfl rfl ?_
      refine G_imul dX12_fewest_95 ?_
      refine G_iload dX12_fewest_96 rfl ?_
      refine G_iadd dX12_fewest_98 ?_
      refine G_iald (v := h 124 (((60 * t) + (p : Int)).toNat)) dX12_fewest_99 (o124 hT) (by omega) (hf_na (by decide)) ?_
      refine G_istore (ls' := [some (.inr (some 81)), some (.inl t), some (.inl w), some (.inl (u : Int)), some (.inl (p : Int)), some (.inl (h 124 (((60 * t) + (p : Int)).toNat)))]) dX12_fewest_100 (by decide) rfl ?_
      rw [show h 124 (((60 * t) + (p : Int)).toNat) = f_gl h t p from by unfold f_gl; rw [show (60 * t + (p : Int)).toNat = 60 * t.toNat + p by omega]]
      have hit : -2147483648 ≤ f_gl h t p ∧ f_gl h t p ≤ 2147483647 := x.it_ _ (by omega)
      refine G_aload_n (i := 0) dX12_fewest_102 rfl rfl ?_
      refine G_iload dX12_fewest_103 rfl ?_
      refine G_cVq (as := [.inl (f_gl h t p)]) qX12_199 (m_isPlace (d + 1) τ (hf_ h 113 0 p (f_gl h t)) hT (f_gl h t p) (by omega) (by rw [hf_na (by decide)]; omega)) rfl rfl (Nat.le_of_ble_eq_true rfl) (o81 hT) dX12_fewest_105 ?_
      rw [show (hf_ h 113 0 p (f_gl h t)) 81 1 = h 81 1 from hf_na (by decide)]
      refine G_ifb_ne (tgt := 114) dX12_fewest_108 (by decide) (fun c_3 => ?_) (fun c_3 => ?_)
      · refine G_iload_n (i := 3) dX12_fewest_114 rfl rfl ?_
        refine G_iconst dX12_fewest_115 ?_
        refine G_iload dX12_fewest_116 rfl ?_
        refine G_ishl dX12_fewest_118 ?_
        refine G_ior dX12_fewest_119 ?_
        refine G_istore_n (i := 3) (ls' := [some (.inr (some 81)), some (.inl t), some (.inl w), some (.inl (b_or (u : Int) (b_shl 1 (f_gl h t p)))), some (.inl (p : Int)), some (.inl (f_gl h t p))]) dX12_fewest_120 rfl (by decide) rfl ?_
        refine G_aload_n (i := 0) dX12_fewest_121 rfl rfl ?_
        refine G_getR fX12_147 rfl dX12_fewest_122 (o81 hT) (r81_45 hT) ?_
        refine G_iload dX12_fewest_125 rfl ?_
        refine G_iload dX12_fewest_127 rfl ?_
        refine G_iastk p dX12_fewest_129 (o113 hT) (by omega) rfl ?_
        refine G_iinc (ls' := [some (.inr (some 81)), some (.inl t), some (.inl w), some (.inl (b_or (u : Int) (b_shl 1 (f_gl h t p)))), some (.inl ((p : Int) + 1)), some (.inl (f_gl h t p))]) dX12_fewest_130 (by decide) rfl rfl ?_
        refine G_goto (tgt := 79) dX12_fewest_133 (by decide) ?_
        refine G_lsub (ls' := [some (.inr (some 81)), some (.inl t), some (.inl w), some (.inl (b_or (u : Int) (b_shl 1 (f_gl h t p)))), some (.inl ((p : Int) + 1)), none]) (LS_same (LS_same (LS_same (LS_same (LS_same (LS_none LS_nil)))))) ?_
        obtain ⟨k, hk⟩ : ∃ k : Nat, f_gl h t p = (k : Int) := ⟨(f_gl h t p).toNat, by omega⟩
        have e1 := (u_or u uq.1 k (by omega)).1
        rw [← hk] at e1
        rw [e1, hf_snoc (Nat.zero_le _) rfl]
        exact ih (u ||| 2 ^ k) (p + 1) (by omega) (by omega) (UQ_s uq (by omega) (by omega) hk)
      · refine G_bipush dX12_fewest_111 (by decide) ?_
        refine G_iretZ rfl dX12_fewest_113 ?_
        refine ⟨?_, fun b j b1 b2 => hf_na (by omega)⟩
        rw [if_neg]
        intro z; exact absurd (z.1 p (by omega)) (by omega)

theorem m_fewest (d : Nat) (τ : TT) (h : HT) (hT : TK τ) (t w : Int) (r_t : -2147483648 ≤ t ∧ t ≤ 2147483647) (r_w : -2147483648 ≤ w ∧ w ≤ 2147483647) (x : MI h) (n : Nat) (hn : h 81 1 = n) (D : (Nat → Int) → Int) (hD : 3 ≤ n ∧ n ≤ 7 → isP n (f_gl h t) → BF n D ∧ D (f_gl h t) = 0 ∧ ∀ o : Nat → Int, isP n o → D o = 0 → ∀ q : Nat, q < n → o q = f_gl h t q) : S_ mX12_fewest (d + 3) 0 0 [.inr (some 81), .inl t, .inl w] τ h (Zi τ fun v h' => v = (if ¬ (0 ≤ t ∧ t ≤ 5) ∨ w < -1 then -1 else if h 81 1 = 0 ∨ 7 < h 81 1 then -3 else if h 122 t.toNat < 0 then -11 else if h 122 t.toNat ≠ 0 then -12 else if h 123 t.toNat < h 81 1 then -13 else @ite Int (isP n (f_gl h t)) (Classical.propDecidable _) (if w = -1 then D (h 86) else if w < D (h 86) then ((g_p n D (g_at n D (h 86) w.toNat) : Nat) : Int) else -1) (-2)) ∧ FRw h h') := by
  have hn9 := x.n_
  refine S_go (k := 3) (ls := [some (.inr (some 81)), some (.inl t), some (.inl w), none, none, none]) (by decide) rfl (Nat.le_of_ble_eq_true rfl) rfl ?_
  refine G_aload_n (i := 0) dX12_fewest_0 rfl rfl ?_
  refine G_iload_n (i := 1) dX12_fewest_1 rfl rfl ?_
  refine G_cVq (as := [.inl t]) qX12_310 (m_isTape (d + 1) τ h hT t (by omega)) rfl rfl (Nat.le_of_ble_eq_true rfl) (o81 hT) dX12_fewest_2 ?_
  refine G_ifb_eq (tgt := 13) dX12_fewest_5 (by decide) (fun c_1 => ?_) (fun c_1 => ?_)
  · refine G_iconst dX12_fewest_13 ?_
    refine G_iretZ rfl dX12_fewest_14 ?_
    exact ⟨by (repeat (first | rw [if_pos (by omega)] | rw [if_neg (by omega)])), FRw.rf⟩
  · refine G_iload_n (i := 2) dX12_fewest_8 rfl rfl ?_
    refine G_iconst dX12_fewest_9 ?_
    refine G_icmp_ge (tgt := 15) dX12_fewest_10 (by decide) (by omega) (by decide) (fun c_2 => ?_) (fun c_2 => ?_)
    · refine G_aload_n (i := 0) dX12_fewest_15 rfl rfl ?_
      refine G_getI (v := h 81 1) fX12_13 rfl dX12_fewest_16 (o81 hT) rfl ?_
      refine G_if_eq (tgt := 31) dX12_fewest_19 (by decide) (by omega) (fun c_3 => ?_) (fun c_3 => ?_)
      · refine G_bipush dX12_fewest_31 (by decide) ?_
        refine G_iretZ rfl dX12_fewest_33 ?_
        exact ⟨by (repeat (first | rw [if_pos (by omega)] | rw [if_neg (by omega)])), FRw.rf⟩
      · refine G_aload_n (i := 0) dX12_fewest_22 rfl rfl ?_
        refine G_getI (v := h 81 1) fX12_13 rfl dX12_fewest_23 (o81 hT) rfl ?_
        refine G_bipush dX12_fewest_26 (by decide) ?_
        refine G_icmp_le (tgt := 34) dX12_fewest_28 (by decide) (by omega) (by decide) (fun c_4 => ?_) (fun c_4 => ?_)
        · refine G_aload_n (i := 0) dX12_fewest_34 rfl rfl ?_
          refine G_getR fX12_183 rfl dX12_fewest_35 (o81 hT) (r81_57 hT) ?_
          refine G_iload_n (i := 1) dX12_fewest_38 rfl rfl ?_
          refine G_iald (v := h 122 ((t).toNat)) dX12_fewest_39 (o122 hT) (by omega) rfl ?_
          have s39 := x.so_ (t).toNat (by omega)
          refine G_if_ge (tgt := 46) dX12_fewest_40 (by decide) (by omega) (fun c_5 => ?_) (fun c_5 => ?_)
          · refine G_aload_n (i := 0) dX12_fewest_46 rfl rfl ?_
            refine G_getR fX12_183 rfl dX12_fewest_47 (o81 hT) (r81_57 hT) ?_
            refine G_iload_n (i := 1) dX12_fewest_50 rfl rfl ?_
            refine G_iald (v := h 122 ((t).toNat)) dX12_fewest_51 (o122 hT) (by omega) rfl ?_
            have s51 := x.so_ (t).toNat (by omega)
            refine G_if_eq (tgt := 58) dX12_fewest_52 (by decide) (by omega) (fun c_6 => ?_) (fun c_6 => ?_)
            · refine G_aload_n (i := 0) dX12_fewest_58 rfl rfl ?_
              refine G_getR fX12_186 rfl dX12_fewest_59 (o81 hT) (r81_58 hT) ?_
              refine G_iload_n (i := 1) dX12_fewest_62 rfl rfl ?_
              refine G_iald (v := h 123 ((t).toNat)) dX12_fewest_63 (o123 hT) (by omega) rfl ?_
              have s63 := x.si_ (t).toNat (by omega)
              refine G_aload_n (i := 0) dX12_fewest_64 rfl rfl ?_
              refine G_getI (v := h 81 1) fX12_13 rfl dX12_fewest_65 (o81 hT) rfl ?_
              refine G_icmp_ge (tgt := 74) dX12_fewest_68 (by decide) (by omega) (by omega) (fun c_7 => ?_) (fun c_7 => ?_)
              · refine G_iconst dX12_fewest_74 ?_
                refine G_istore_n (i := 3) (ls' := [some (.inr (some 81)), some (.inl t), some (.inl w), some (.inl 0), none, none]) dX12_fewest_75 rfl (by decide) rfl ?_
                refine G_iconst dX12_fewest_76 ?_
                refine G_istore (ls' := [some (.inr (some 81)), some (.inl t), some (.inl w), some (.inl 0), some (.inl 0), none]) dX12_fewest_77 (by decide) rfl ?_
                have G := m_few_G d τ h hT n ⟨hn, by omega, by omega⟩ x t w (by omega) (by omega) ⟨fun p hp => by have := x.ha_ p (by omega); omega, fun p q hp hq e => x.hi_ p q (by omega) (by omega) e⟩ D (hD (by omega)) _ 0 0 (Nat.lt_succ_self _) (Nat.zero_le _) ⟨by decide, fun k => by rw [Nat.zero_testBit]; exact ⟨fun z => (by cases z), fun ⟨q, q1, _⟩ => absurd q1 (Nat.not_lt_zero _)⟩, fun q hq => absurd hq (Nat.not_lt_zero _)⟩
                rw [hf_nil] at G
                refine G_mono ?_ G
                rintro r τ' h' ⟨q1, v, q2, q3, q4⟩
                refine ⟨q1, v, q2, ?_, q4⟩
                rw [if_neg (by omega), if_neg (by omega), if_neg (by omega), if_neg (by omega), if_neg (by omega)]
                exact q3
              · refine G_bipush dX12_fewest_71 (by decide) ?_
                refine G_iretZ rfl dX12_fewest_73 ?_
                exact ⟨by (repeat (first | rw [if_pos (by omega)] | rw [if_neg (by omega)])), FRw.rf⟩
            · refine G_bipush dX12_fewest_55 (by decide) ?_
              refine G_iretZ rfl dX12_fewest_57 ?_
              exact ⟨by (repeat (first | rw [if_pos (by omega)] | rw [if_neg (by omega)])), FRw.rf⟩
          · refine G_bipush dX12_fewest_43 (by decide) ?_
            refine G_iretZ rfl dX12_fewest_45 ?_
            exact ⟨by (repeat (first | rw [if_pos (by omega)] | rw [if_neg (by omega)])), FRw.rf⟩
        · refine G_bipush dX12_fewest_31 (by decide) ?_
          refine G_iretZ rfl dX12_fewest_33 ?_
          exact ⟨by (repeat (first | rw [if_pos (by omega)] | rw [if_neg (by omega)])), FRw.rf⟩
    · refine G_iconst dX12_fewest_13 ?_
      refine G_iretZ rfl dX12_fewest_14 ?_
      exact ⟨by (repeat (first | rw [if_pos (by omega)] | rw [if_neg (by omega)])), FRw.rf⟩

