/-! operations: slips, colours -/
theorem x_slipsM (d : Nat) (τ : TT) (h : HT) (hT : TK τ) (x : MI h) (y : XR τ h) (f j : Int) (r_f : -2147483648 ≤ f ∧ f ≤ 2147483647) (r_j : -2147483648 ≤ j ∧ j ≤ 2147483647) : S_ mX11_slips (d + 6) 0 0 [.inr (some 0), .inl f, .inl j] τ h (Zi τ fun v h' => v = f_slips h f j ∧ FRe h h') := by
  have n9 := x.n9
  have d1 := x.d1
  have n_ := x.n_
  have fn := y.fn_
  have da := y.da_
  have cn := y.cn_
  have r_r_ := x.r_
  have s_s_ := x.s_
  have dc := y.dc_
  have pc := y.pc_
  have pp := x.p_
  have fgc := y.fg_.1
  have f10 := x.f_
  have ra := y.ra_
  have a100 := x.a_
  have pic := y.pi_
  have t40 := x.t_
  have txx := y.tx_
  have e80 := x.e_
  have dx := x.d_
  refine S_go (k := 1) (ls := [some (.inr (some 0)), some (.inl f), some (.inl j), none]) (by decide) rfl (Nat.le_of_ble_eq_true rfl) rfl ?_
  refine G_aload_n (i := 0) dX11_slips_0 rfl rfl ?_
  refine G_getR fX11_79 rfl dX11_slips_1 (o0 hT) (r0_13 hT) ?_
  refine G_iload_n (i := 1) dX11_slips_4 rfl rfl ?_
  refine G_cVr (as := [.inl f]) qX11_264 (x_figureAt (d + 5) τ h hT f (by omega) (by have := y.fg_.1; have := y.fg_.2.1; omega)) rfl rfl (Nat.le_of_ble_eq_true rfl) (o39 hT) dX11_slips_5 (fun x' h' e' => ?_)
  obtain ⟨rfl, eh'⟩ := e'
  rw [eh']
  clear eh'
  by_cases hb : 0 ≤ f ∧ f < h 39 1
  · rw [if_pos hb]
    obtain ⟨b, Lb, b1, b2, b3, b4, b5, b6⟩ := y.fg_.2.2 (f).toNat (by have := y.fg_.1; omega)
    rw [b1]
    have bm := x.ma_ (f).toNat (by have := y.fg_.1; omega)
    obtain ⟨bc, be⟩ := stL_fig b5 b6
    refine G_astore_n (i := 3) (ls' := [some (.inr (some 0)), some (.inl f), some (.inl j), some (.inr (some b))]) dX11_slips_8 rfl (by decide) rfl ?_
    refine G_aload_n (i := 3) dX11_slips_9 rfl rfl ?_
    refine G_ifnullS dX11_slips_10 ?_
    refine G_iload_n (i := 2) dX11_slips_13 rfl rfl ?_
    refine G_iconst dX11_slips_14 ?_
    refine G_icmp_ge (tgt := 20) dX11_slips_15 (by decide) (by omega) (by decide) (fun c_1 => ?_) (fun c_1 => ?_)
    · refine G_aload_n (i := 0) dX11_slips_20 rfl rfl ?_
      refine G_getI (v := h 0 6) fX11_40 rfl dX11_slips_21 (o0 hT) rfl ?_
      refine G_if_ne (tgt := 30) dX11_slips_24 (by decide) (by omega) (fun c_2 => ?_) (fun c_2 => ?_)
      · refine G_aload_n (i := 0) dX11_slips_30 rfl rfl ?_
        refine G_aload_n (i := 3) dX11_slips_31 rfl rfl ?_
        refine G_iload_n (i := 2) dX11_slips_32 rfl rfl ?_
        refine G_cVi (as := [.inr (some b), .inl j]) qX11_274 (x_explained d τ h hT (h 81 1) (h 81 15) (h 95) (h 96) (by omega) (y.clh x) (t_0 h) b Lb b3 b2 b4 (figL h f.toNat) ⟨by rw [figL_len]; omega, by rw [figL_len]; omega⟩ (fun k hk => by rw [figL_len] at hk; rw [be k hk]; exact figL_at hk) (figL_ok x (by omega)) j (by omega) (y.sf_ (by omega)) (t_0_ok x (by omega))) rfl rfl (Nat.le_of_ble_eq_true rfl) (o0 hT) dX11_slips_33 (fun v1 g e1 => ?_)
        obtain ⟨e1, e2⟩ := e1
        rw [figL_len] at e1
        refine G_iretZ rfl dX11_slips_36 ?_
        refine ⟨?_, e2⟩
        unfold f_slips; rw [if_neg (by omega), if_neg (by omega)]
        exact e1
      · refine G_bipush dX11_slips_27 (by decide) ?_
        refine G_iretZ rfl dX11_slips_29 ?_
        exact ⟨by unfold f_slips; (repeat (first | rw [if_pos (by omega)] | rw [if_neg (by omega)])), FRe.rf⟩
    · refine G_iconst dX11_slips_18 ?_
      refine G_iretZ rfl dX11_slips_19 ?_
      exact ⟨by unfold f_slips; (repeat (first | rw [if_pos (by omega)] | rw [if_neg (by omega)])), FRe.rf⟩
  · rw [if_neg hb]
    refine G_astore_n (i := 3) (ls' := [some (.inr (some 0)), some (.inl f), some (.inl j), some (.inr none)]) dX11_slips_8 rfl (by decide) rfl ?_
    refine G_aload_n (i := 3) dX11_slips_9 rfl rfl ?_
    refine G_ifnullN (tgt := 18) dX11_slips_10 (by decide) ?_
    refine G_iconst dX11_slips_18 ?_
    refine G_iretZ rfl dX11_slips_19 ?_
    exact ⟨by unfold f_slips; (repeat (first | rw [if_pos (by omega)] | rw [if_neg (by omega)])), FRe.rf⟩

theorem f_slips_c {h h1 : HT} (rf : RF h h1) (f i : Int) : f_slips h1 f i = f_slips h f i := by
  have e81 : ∀ k, h1 81 k = h 81 k := fun k => rf 81 k (by decide) (by decide)
  have e9 : ∀ a, 81 ≤ a → a ≤ 125 → h1 a = h a := fun a z1 z2 => funext fun k => rf a k z1 z2
  have t0 : t_0 h1 = t_0 h := by unfold t_0; rw [e9 89 (by decide) (by decide)]
  have fl : ∀ F, figL h1 F = figL h F := fun F => by unfold figL; rw [e9 102 (by decide) (by decide), e9 103 (by decide) (by decide)]
  have ok : ∀ F, f_okq h1 F = f_okq h F := fun F => funext fun q => by
    unfold f_okq; rw [e81, e81, t0, fl, e9 95 (by decide) (by decide), e9 96 (by decide) (by decide)]
  unfold f_slips
  rw [e81, e81, ok, e9 102 (by decide) (by decide)]
theorem FRe_keep {h h' : HT} (x : FRe h h') : KEEP h h' ∧ RF h h' := ⟨fun a i q => x a i (by unfold SCR at q; omega), fun a i z1 z2 => x a i (by omega)⟩
theorem op_slips {τ : TT} {h : HT} (s : SIM τ h) (f j : Int) (r_f : -2147483648 ≤ f ∧ f ≤ 2147483647) (r_j : -2147483648 ≤ j ∧ j ≤ 2147483647) : OPS mX11_slips mX12_slips 20 0 0 [.inl f, .inl j] τ h := by
  obtain ⟨hT, x, y⟩ := s
  refine OPS_q ⟨hT, x, y⟩ (fun v h1 => v = f_slips h f j ∧ RF h h1) (fun d => S_mono ?_ (x_slipsM (d + 14) τ h hT x y f j r_f r_j)) (fun d v h1 p1 kp s1 => S_mono ?_ (m_slips (d + 16) τ h1 hT f j r_f r_j s1.2.1)) (fun v h1 p1 _ j => p1.2 100 j (by decide) (by decide))
  · rintro r τ2 h2 ⟨rfl, w, rfl, q1, q2⟩
    exact ⟨rfl, w, rfl, ⟨q1, (FRe_keep q2).2⟩, (FRe_keep q2).1⟩
  · rintro r τ2 h2 ⟨rfl, w, rfl, q1, q2⟩
    refine ⟨rfl, w, rfl, ?_, KEEP_FRt q2, fun j hj => ?_⟩
    · rw [q1, p1.1, f_slips_c p1.2]
    · rw [q2 100 j (by decide) (by decide) (by decide) (by omega)]; exact s1.2.2.gs_ j hj
theorem x_cnt_c {h g : HT} (e0 : g 13 0 = h 13 0) (e1 : g 13 1 = h 13 1) (e6 : ∀ k, g 16 k = h 16 k) (e9 : ∀ k, g 19 k = h 19 k) (e20 : ∀ k, g 20 k = h 20 k) (e21 : ∀ k, g 21 k = h 21 k) : ∀ k : Nat, x_cnt g k = x_cnt h k
  | 0 => rfl
  | k + 1 => by
    funext j
    show x_cnt g k j + (if x_gd g k ∧ 8 * g 16 (9 * g 19 k + g 20 k).toNat + g 21 k = (j : Int) then 1 else 0) = x_cnt h k j + (if x_gd h k ∧ 8 * h 16 (9 * h 19 k + h 20 k).toNat + h 21 k = (j : Int) then 1 else 0)
    rw [x_cnt_c e0 e1 e6 e9 e20 e21 k]
    unfold x_gd x_has
    rw [e0, e1, e6, e9, e20, e21]
def sG (A : Nat → Int) (g : Nat → Int) : Nat → Int
  | 0 => 0
  | r + 1 => sG A g r + A (8 * r + (g r).toNat)
theorem sG_add {A : Nat → Int} {g : Nat → Int} {t : Nat} {c : Int} (hc : 0 ≤ c ∧ c < 8) {n : Nat} (hg : ∀ r : Nat, r < n → 0 ≤ g r ∧ g r < 8) : ∀ r : Nat, r ≤ n → sG (fun j => A j + if 8 * (t : Int) + c = (j : Int) then 1 else 0) g r = sG A g r + if t < r ∧ g t = c then 1 else 0
  | 0, _ => by rw [if_neg (fun q => absurd q.1 (Nat.not_lt_zero _))]; rfl
  | r + 1, h => by
    have ih := sG_add (A := A) (g := g) (t := t) hc hg r (by omega)
    have hr := hg r (by omega)
    show sG _ g r + (A (8 * r + (g r).toNat) + if 8 * (t : Int) + c = ((8 * r + (g r).toNat : Nat) : Int) then 1 else 0) = sG A g r + A (8 * r + (g r).toNat) + if t < r + 1 ∧ g t = c then 1 else 0
    rw [ih]
    by_cases z : t = r
    · subst z
      rw [if_neg (fun q => absurd q.1 (Nat.lt_irrefl _))]
      by_cases y : g t = c
      · rw [if_pos (by omega), if_pos ⟨by omega, y⟩]; omega
      · rw [if_neg (by omega), if_neg (fun q => y q.2)]; omega
    · rw [if_neg (show ¬ (8 * (t : Int) + c = ((8 * r + (g r).toNat : Nat) : Int)) by omega)]
      by_cases y : t < r ∧ g t = c
      · rw [if_pos y, if_pos ⟨by omega, y.2⟩]; omega
      · rw [if_neg y, if_neg (fun q => y ⟨by omega, q.2⟩)]; omega
theorem sG_0 {g : Nat → Int} : ∀ r : Nat, sG (fun _ => 0) g r = 0
  | 0 => rfl
  | r + 1 => by show sG _ g r + 0 = 0; rw [sG_0 r]; rfl
theorem wv_e {τ : TT} {h : HT} (x : MI h) (y : XR τ h) {g : Nat → Int} (hg : ∀ r : Nat, r < (h 81 1).toNat → 0 ≤ g r ∧ g r < 8) : ∀ k : Nat, k ≤ 40 → f_wv h g k = (k : Int) - sG (x_cnt h k) g (h 81 1).toNat
  | 0, _ => by show (0 : Int) = 0 - sG (fun _ => 0) g _; rw [sG_0]; rfl
  | k + 1, hk => by
    have ih := wv_e x y hg k (by omega)
    have cn := y.cn_
    obtain ⟨p1, p2, p3⟩ := y.pi_.2 k (by omega)
    have t7 := x.t7_ k (by omega)
    have t8 := x.t8_ k (by omega)
    have t9 := x.t9_ k (by omega)
    by_cases gd : x_gd h k
    · have gd' := gd
      unfold x_gd x_has at gd'
      rw [p1, p2, cn.1, cn.2] at gd'
      have c1 := (y.cl_ (h 97 k).toNat (h 98 k).toNat (by omega) (by omega)).2.2
      have tl := f_top_lt x y.ok_ (r := h 97 k) (p := h 98 k) (by omega) (by omega)
      rw [show (((h 97 k).toNat : Nat) : Int) = h 97 k by omega, show (((h 98 k).toNat : Nat) : Int) = h 98 k by omega] at c1
      have ec : x_cnt h (k + 1) = fun j => x_cnt h k j + if 8 * (((f_top h (h 97 k) (h 98 k)).toNat : Nat) : Int) + h 99 k = (j : Int) then 1 else 0 := by
        funext j
        show x_cnt h k j + (if x_gd h k ∧ 8 * h 16 (9 * h 19 k + h 20 k).toNat + h 21 k = (j : Int) then 1 else 0) = _
        have e : 8 * h 16 (9 * h 19 k + h 20 k).toNat + h 21 k = 8 * (((f_top h (h 97 k) (h 98 k)).toNat : Nat) : Int) + h 99 k := by
          rw [p1, p2, p3, show (9 * h 97 k + h 98 k).toNat = 9 * (h 97 k).toNat + (h 98 k).toNat by omega, c1, show (((f_top h (h 97 k) (h 98 k)).toNat : Nat) : Int) = f_top h (h 97 k) (h 98 k) by omega]
        by_cases z : 8 * (((f_top h (h 97 k) (h 98 k)).toNat : Nat) : Int) + h 99 k = (j : Int)
        · rw [if_pos ⟨gd, e.trans z⟩, if_pos z]
        · rw [if_neg (fun q => z (e.symm.trans q.2)), if_neg z]
      rw [ec, sG_add (by omega) hg _ (Nat.le_refl _)]
      by_cases b : f_bad h g k
      · rw [f_wv_1 b, ih, if_neg (fun q => by rcases b with b | b | b; (· omega); (· omega); (· exact b q.2))]; omega
      · rw [f_wv_0 b, ih, if_pos ⟨by omega, Classical.byContradiction fun z => b (Or.inr (Or.inr z))⟩]; omega
    · have ec : x_cnt h (k + 1) = x_cnt h k := by
        funext j
        show x_cnt h k j + (if x_gd h k ∧ _ then 1 else 0) = _
        rw [if_neg (fun q => gd q.1)]; omega
      have b : f_bad h g k := Classical.byContradiction fun z => gd (by
        unfold x_gd x_has
        rw [p1, p2, cn.1, cn.2]
        have z1 : ¬ h 81 15 ≤ h 97 k := fun q => z (Or.inl q)
        have z2 : ¬ h 81 1 ≤ h 98 k := fun q => z (Or.inr (Or.inl q))
        omega)
      rw [f_wv_1 b, ih, ec]; omega
/-- digits put together -/
def hv_ (c : Nat) (g : Nat → Nat) : Nat → Nat
  | 0 => 0
  | p + 1 => hv_ c g p * c + g p
theorem hv_lt {c : Nat} {g : Nat → Nat} {n : Nat} (hg : ∀ p : Nat, p < n → g p < c) : ∀ p : Nat, p ≤ n → hv_ c g p < c ^ p
  | 0, _ => by show 0 < 1; omega
  | p + 1, h => by
    have ih := hv_lt hg p (by omega)
    have := hg p (by omega)
    show hv_ c g p * c + g p < c ^ (p + 1)
    rw [Nat.pow_succ]
    have : (hv_ c g p + 1) * c ≤ c ^ p * c := Nat.mul_le_mul_right c ih
    rw [Nat.add_mul] at this
    omega
theorem hv_div {c : Nat} {g : Nat → Nat} {n : Nat} (hc : 0 < c) (hg : ∀ p : Nat, p < n → g p < c) (p : Nat) : ∀ m : Nat, p + m ≤ n → hv_ c g (p + m) / c ^ m = hv_ c g p
  | 0, _ => by rw [Nat.pow_zero, Nat.div_one, Nat.add_zero]
  | m + 1, h => by
    have ih := hv_div hc hg p m (by omega)
    have := hg (p + m) (by omega)
    rw [Nat.pow_succ, Nat.mul_comm, ← Nat.div_div_eq_div_mul]
    show (hv_ c g (p + m) * c + g (p + m)) / c / c ^ m = _
    rw [Nat.add_comm, Nat.add_mul_div_right _ _ hc, Nat.div_eq_of_lt this, Nat.zero_add, ih]
theorem hv_dg {c : Nat} {g : Nat → Nat} {n p : Nat} (hc : 0 < c) (hg : ∀ p : Nat, p < n → g p < c) (hp : p < n) : f_dg c n (hv_ c g n) p = (g p : Int) := by
  unfold f_dg
  have := hv_div hc hg (p + 1) (n - 1 - p) (by omega)
  rw [show p + 1 + (n - 1 - p) = n by omega] at this
  rw [this]
  show (((hv_ c g p * c + g p) % c : Nat) : Int) = _
  rw [Nat.add_comm, Nat.add_mul_mod_self_right, Nat.mod_eq_of_lt (hg p hp)]
theorem hv_of {c n a : Nat} (ha : a < c ^ n) : ∀ p : Nat, p ≤ n → hv_ c (fun q => a / c ^ (n - 1 - q) % c) p = a / c ^ (n - p)
  | 0, _ => by show 0 = a / c ^ (n - 0); rw [Nat.sub_zero, Nat.div_eq_of_lt ha]
  | p + 1, h => by
    have ih := hv_of ha p (by omega)
    show hv_ c _ p * c + a / c ^ (n - 1 - p) % c = _
    rw [ih, show n - p = (n - 1 - p) + 1 by omega, Nat.pow_succ, ← Nat.div_div_eq_div_mul, show n - (p + 1) = n - 1 - p by omega]
    have := Nat.div_add_mod (a / c ^ (n - 1 - p)) c
    rw [Nat.mul_comm]; exact this
theorem hv_mono {c : Nat} {g k : Nat → Nat} {n : Nat} (h : ∀ p : Nat, p < n → g p ≤ k p) : ∀ p : Nat, p ≤ n → hv_ c g p ≤ hv_ c k p
  | 0, _ => Nat.le_refl _
  | p + 1, hp => Nat.add_le_add (Nat.mul_le_mul_right c (hv_mono h p (by omega))) (h p (by omega))
theorem sG_le {A : Nat → Int} {g k : Nat → Int} {n : Nat} (h : ∀ r : Nat, r < n → A (8 * r + (g r).toNat) ≤ A (8 * r + (k r).toNat)) : ∀ r : Nat, r ≤ n → sG A g r ≤ sG A k r ∧ (sG A g r = sG A k r → ∀ q : Nat, q < r → A (8 * q + (g q).toNat) = A (8 * q + (k q).toNat))
  | 0, _ => ⟨Int.le_refl _, fun _ q hq => absurd hq (Nat.not_lt_zero _)⟩
  | r + 1, hr => by
    have ih := sG_le h r (by omega)
    have h1 := h r (by omega)
    refine ⟨?_, fun e q hq => ?_⟩
    · show sG A g r + _ ≤ sG A k r + _; omega
    · have e' : sG A g r + A (8 * r + (g r).toNat) = sG A k r + A (8 * r + (k r).toNat) := e
      rcases Nat.lt_succ_iff_lt_or_eq.mp hq with z | z
      · exact ih.2 (by omega) q z
      · subst z; omega
theorem sG_sA {A : Nat → Int} {c : Nat} : ∀ r : Nat, sG A (fun q => ((x_mb A q c : Nat) : Int)) r = x_sA A c r
  | 0 => rfl
  | r + 1 => by show sG A _ r + A (8 * r + _) = x_sA A c r + A (8 * r + x_mb A r c); rw [sG_sA r]; rfl
theorem sG_c {A : Nat → Int} {g k : Nat → Int} {n : Nat} (h : ∀ r : Nat, r < n → g r = k r) : ∀ r : Nat, r ≤ n → sG A g r = sG A k r
  | 0, _ => rfl
  | r + 1, hr => by show sG A g r + _ = sG A k r + _; rw [sG_c h r (by omega), h r (by omega)]
/-- the first best guess is the one of the most asked -/
theorem col_e {τ : TT} {h : HT} (x : MI h) (y : XR τ h) {c n a : Nat} (hn : h 81 1 = n) (hc : 1 ≤ c ∧ c ≤ 4) (am : f_am (f_cw h c n) (c ^ n) a) : f_cw h c n a = h 81 20 - x_sA (x_cnt h (h 81 20).toNat) c n ∧ ∀ p : Nat, p < n → f_dg c n a p = ((x_mb (x_cnt h (h 81 20).toNat) p c : Nat) : Int) := by
  have t40 := x.t_
  generalize hA : x_cnt h (h 81 20).toNat = A
  have hN : (h 81 1).toNat = n := by omega
  have val : ∀ g : Nat → Int, (∀ r : Nat, r < n → 0 ≤ g r ∧ g r < 8) → f_wv h g (h 81 20).toNat = h 81 20 - sG A g n := fun g hg => by
    have := wv_e x y (g := g) (by rw [hN]; exact hg) (h 81 20).toNat (by omega)
    rw [this, hA, hN]; omega
  have chr : ∀ p : Nat, p < n → x_mb A p c < c := fun p _ => x_mb_r c (by omega)
  generalize hb : hv_ c (fun p => x_mb A p c) n = b
  have hbl : b < c ^ n := by rw [← hb]; exact hv_lt chr n (Nat.le_refl _)
  have hbd : ∀ p : Nat, p < n → f_dg c n b p = ((x_mb A p c : Nat) : Int) := fun p hp => by rw [← hb]; exact hv_dg (by omega) chr hp
  have vb : f_cw h c n b = h 81 20 - x_sA A c n := by
    unfold f_cw
    rw [val _ (fun r hr => by rw [hbd r hr]; have := chr r hr; omega), sG_c hbd n (Nat.le_refl _), sG_sA]
  have dr : ∀ p : Nat, 0 ≤ f_dg c n a p ∧ f_dg c n a p < c := fun p => f_dg_r hc.1
  have va : f_cw h c n a = h 81 20 - sG A (f_dg c n a) n := by
    unfold f_cw
    exact val _ (fun r hr => by have := dr r; omega)
  have le := sG_le (A := A) (g := f_dg c n a) (k := fun q => ((x_mb A q c : Nat) : Int)) (n := n) (fun r hr => by
    have := dr r
    exact (x_mb_max (A := A) (r := r) c (f_dg c n a r).toNat (by omega)).1) n (Nat.le_refl _)
  rw [sG_sA] at le
  have mn := am.2.1 b hbl
  have eq : sG A (f_dg c n a) n = x_sA A c n := by omega
  have ge : ∀ p : Nat, p < n → x_mb A p c ≤ (f_dg c n a p).toNat := fun p hp => by
    have e1 := le.2 eq p hp
    have := dr p
    have m2 := (x_mb_max (A := A) (r := p) c (f_dg c n a p).toNat (by omega)).2
    rw [Int.toNat_natCast] at e1
    by_cases z : (f_dg c n a p).toNat < x_mb A p c
    · have := m2 z; omega
    · omega
  have ea := hv_of (c := c) (n := n) (a := a) am.1 n (Nat.le_refl _)
  rw [Nat.sub_self, Nat.pow_zero, Nat.div_one] at ea
  have ba : b ≤ a := by
    rw [← hb, ← ea]
    refine hv_mono (fun p hp => ?_) n (Nat.le_refl _)
    have := ge p hp
    unfold f_dg at this
    omega
  have ab : a = b := by
    rcases Nat.lt_or_ge b a with z | z
    · have := am.2.2 b z; omega
    · omega
  subst ab
  exact ⟨vb, hbd⟩
def x_colV (h : HT) (c w : Int) : Int := if ¬ (-1 ≤ w ∧ w ≤ h 81 1 - 1) then -1 else if ¬ (1 ≤ c ∧ c ≤ 4) then -2 else if h 81 15 = 0 ∨ 6 < h 81 1 then -3 else if w < 0 then h 81 20 - x_sA (x_cnt h (h 81 20).toNat) c.toNat (h 81 1).toNat else ((x_mb (x_cnt h (h 81 20).toNat) w.toNat c.toNat : Nat) : Int)
theorem x_choose' (d : Nat) (τ : TT) (h : HT) (hT : TK τ) (hrr : 0 ≤ h 13 1 ∧ h 13 1 ≤ 100) (hn : 0 ≤ h 13 0 ∧ h 13 0 ≤ 9) (tk : x_topok h) (hc : 0 ≤ h 18 3 ∧ h 18 3 ≤ 40) (h9 : ∀ k : Nat, k < 40 → (0 ≤ h 19 k ∧ h 19 k ≤ 99) ∧ (0 ≤ h 20 k ∧ h 20 k ≤ 8) ∧ (0 ≤ h 21 k ∧ h 21 k ≤ 7)) (c : Int) (hc4 : 1 ≤ c ∧ c ≤ 4) (A : Nat → Int) (hA : x_cnt h (h 18 3).toNat = A) : S_ mX6_choose (d + 1) 0 0 [.inr (some 18), .inr (some 13), .inl c] τ h (Zv τ fun h' => (h' 18 6 = h 18 3 - x_sA A c.toNat (h 13 0).toNat ∧ (∀ r : Nat, r < (h 13 0).toNat → h' 23 r = ((x_mb A r c.toNat : Nat) : Int))) ∧ FRpc h h') := by
  obtain ⟨C, rfl⟩ : ∃ C : Nat, c = (C : Int) := ⟨c.toNat, by omega⟩
  exact x_choose d τ h hT hrr hn tk hc h9 C (h 13 0).toNat (by omega) (by omega) A hA
theorem x_coloursM (d : Nat) (τ : TT) (h : HT) (hT : TK τ) (x : MI h) (y : XR τ h) (c w : Int) (r_c : -2147483648 ≤ c ∧ c ≤ 2147483647) (r_w : -2147483648 ≤ w ∧ w ≤ 2147483647) : S_ mX11_colours (d + 2) 0 0 [.inr (some 0), .inl c, .inl w] τ h (Zi τ fun v h' => v = x_colV h c w ∧ FRpc h h') := by
  have n9 := x.n9
  have d1 := x.d1
  have n_ := x.n_
  have fn := y.fn_
  have da := y.da_
  have cn := y.cn_
  have r_r_ := x.r_
  have s_s_ := x.s_
  have dc := y.dc_
  have pc := y.pc_
  have pp := x.p_
  have fgc := y.fg_.1
  have f10 := x.f_
  have ra := y.ra_
  have a100 := x.a_
  have pic := y.pi_
  have t40 := x.t_
  have txx := y.tx_
  have e80 := x.e_
  refine S_go (k := 0) (ls := [some (.inr (some 0)), some (.inl c), some (.inl w)]) (by decide) rfl (Nat.le_of_ble_eq_true rfl) rfl ?_
  refine G_iload_n (i := 2) dX11_colours_0 rfl rfl ?_
  refine G_iconst dX11_colours_1 ?_
  refine G_icmp_eq (tgt := 15) dX11_colours_2 (by decide) (by omega) (by decide) (fun c_1 => ?_) (fun c_1 => ?_)
  · refine G_iload_n (i := 1) dX11_colours_15 rfl rfl ?_
    refine G_iconst dX11_colours_16 ?_
    refine G_icmp_lt (tgt := 25) dX11_colours_17 (by decide) (by omega) (by decide) (fun c_2 => ?_) (fun c_2 => ?_)
    · refine G_bipush dX11_colours_25 (by decide) ?_
      refine G_iretZ rfl dX11_colours_27 ?_
      exact ⟨by unfold x_colV; (repeat (first | rw [if_pos (by omega)] | rw [if_neg (by omega)])), fun _ _ _ _ _ => rfl⟩
    · refine G_iload_n (i := 1) dX11_colours_20 rfl rfl ?_
      refine G_iconst dX11_colours_21 ?_
      refine G_icmp_le (tgt := 28) dX11_colours_22 (by decide) (by omega) (by decide) (fun c_3 => ?_) (fun c_3 => ?_)
      · refine G_aload_n (i := 0) dX11_colours_28 rfl rfl ?_
        refine G_getR fX11_56 rfl dX11_colours_29 (o0 hT) (r0_8 hT) ?_
        refine G_getI (v := h 13 1) fX11_188 rfl dX11_colours_32 (o13 hT) rfl ?_
        refine G_if_eq (tgt := 50) dX11_colours_35 (by decide) (by omega) (fun c_4 => ?_) (fun c_4 => ?_)
        · refine G_bipush dX11_colours_50 (by decide) ?_
          refine G_iretZ rfl dX11_colours_52 ?_
          exact ⟨by unfold x_colV; (repeat (first | rw [if_pos (by omega)] | rw [if_neg (by omega)])), fun _ _ _ _ _ => rfl⟩
        · refine G_aload_n (i := 0) dX11_colours_38 rfl rfl ?_
          refine G_getR fX11_36 rfl dX11_colours_39 (o0 hT) (r0_5 hT) ?_
          refine G_getI (v := h 6 0) fX11_157 rfl dX11_colours_42 (o6 hT) rfl ?_
          refine G_bipush dX11_colours_45 (by decide) ?_
          refine G_icmp_le (tgt := 53) dX11_colours_47 (by decide) (by omega) (by decide) (fun c_5 => ?_) (fun c_5 => ?_)
          · refine G_aload_n (i := 0) dX11_colours_53 rfl rfl ?_
            refine G_getR fX11_63 rfl dX11_colours_54 (o0 hT) (r0_9 hT) ?_
            refine G_aload_n (i := 0) dX11_colours_57 rfl rfl ?_
            refine G_getR fX11_56 rfl dX11_colours_58 (o0 hT) (r0_8 hT) ?_
            refine G_iload_n (i := 1) dX11_colours_61 rfl rfl ?_
            refine G_cVv (as := [.inr (some 13), .inl c]) qX11_217 (x_choose' d τ h hT (by omega) (by omega) (y.topok x) (by omega) (y.h9 x) c (by omega) (x_cnt h (h 81 20).toNat) (by rw [pic.1])) rfl rfl (Nat.le_of_ble_eq_true rfl) (o18 hT) dX11_colours_62 (fun g e1 => ?_)
            obtain ⟨⟨e1, e2⟩, e3⟩ := e1
            refine G_iload_n (i := 2) dX11_colours_65 rfl rfl ?_
            refine G_iconst dX11_colours_66 ?_
            refine G_icmp_ne (tgt := 80) dX11_colours_67 (by decide) (by omega) (by decide) (fun q => absurd c_1 q) (fun _ => ?_)
            refine G_aload_n (i := 0) dX11_colours_70 rfl rfl ?_
            refine G_getR fX11_63 rfl dX11_colours_71 (o0 hT) (r0_9 hT) ?_
            refine G_getI (v := g 18 6) fX11_221 rfl dX11_colours_74 (o18 hT) rfl ?_
            refine G_goto (tgt := 89) dX11_colours_77 (by decide) ?_
            refine G_iretZ rfl dX11_colours_89 ?_
            refine ⟨?_, e3⟩
            unfold x_colV; rw [if_neg (by omega), if_neg (by omega), if_neg (by omega)]
            rw [if_pos (by omega), e1, cn.1, pic.1]
          · refine G_bipush dX11_colours_50 (by decide) ?_
            refine G_iretZ rfl dX11_colours_52 ?_
            exact ⟨by unfold x_colV; (repeat (first | rw [if_pos (by omega)] | rw [if_neg (by omega)])), fun _ _ _ _ _ => rfl⟩
      · refine G_bipush dX11_colours_25 (by decide) ?_
        refine G_iretZ rfl dX11_colours_27 ?_
        exact ⟨by unfold x_colV; (repeat (first | rw [if_pos (by omega)] | rw [if_neg (by omega)])), fun _ _ _ _ _ => rfl⟩
  · refine G_aload_n (i := 0) dX11_colours_5 rfl rfl ?_
    refine G_iload_n (i := 2) dX11_colours_6 rfl rfl ?_
    refine G_cVq (as := [.inl w]) qX11_137 (x_isPlace (d + 1) τ h hT w (by omega) (by omega)) rfl rfl (Nat.le_of_ble_eq_true rfl) (o0 hT) dX11_colours_7 ?_
    refine G_ifb_ne (tgt := 15) dX11_colours_10 (by decide) (fun c_6 => ?_) (fun c_6 => ?_)
    · refine G_iload_n (i := 1) dX11_colours_15 rfl rfl ?_
      refine G_iconst dX11_colours_16 ?_
      refine G_icmp_lt (tgt := 25) dX11_colours_17 (by decide) (by omega) (by decide) (fun c_7 => ?_) (fun c_7 => ?_)
      · refine G_bipush dX11_colours_25 (by decide) ?_
        refine G_iretZ rfl dX11_colours_27 ?_
        exact ⟨by unfold x_colV; (repeat (first | rw [if_pos (by omega)] | rw [if_neg (by omega)])), fun _ _ _ _ _ => rfl⟩
      · refine G_iload_n (i := 1) dX11_colours_20 rfl rfl ?_
        refine G_iconst dX11_colours_21 ?_
        refine G_icmp_le (tgt := 28) dX11_colours_22 (by decide) (by omega) (by decide) (fun c_8 => ?_) (fun c_8 => ?_)
        · refine G_aload_n (i := 0) dX11_colours_28 rfl rfl ?_
          refine G_getR fX11_56 rfl dX11_colours_29 (o0 hT) (r0_8 hT) ?_
          refine G_getI (v := h 13 1) fX11_188 rfl dX11_colours_32 (o13 hT) rfl ?_
          refine G_if_eq (tgt := 50) dX11_colours_35 (by decide) (by omega) (fun c_9 => ?_) (fun c_9 => ?_)
          · refine G_bipush dX11_colours_50 (by decide) ?_
            refine G_iretZ rfl dX11_colours_52 ?_
            exact ⟨by unfold x_colV; (repeat (first | rw [if_pos (by omega)] | rw [if_neg (by omega)])), fun _ _ _ _ _ => rfl⟩
          · refine G_aload_n (i := 0) dX11_colours_38 rfl rfl ?_
            refine G_getR fX11_36 rfl dX11_colours_39 (o0 hT) (r0_5 hT) ?_
            refine G_getI (v := h 6 0) fX11_157 rfl dX11_colours_42 (o6 hT) rfl ?_
            refine G_bipush dX11_colours_45 (by decide) ?_
            refine G_icmp_le (tgt := 53) dX11_colours_47 (by decide) (by omega) (by decide) (fun c_10 => ?_) (fun c_10 => ?_)
            · refine G_aload_n (i := 0) dX11_colours_53 rfl rfl ?_
              refine G_getR fX11_63 rfl dX11_colours_54 (o0 hT) (r0_9 hT) ?_
              refine G_aload_n (i := 0) dX11_colours_57 rfl rfl ?_
              refine G_getR fX11_56 rfl dX11_colours_58 (o0 hT) (r0_8 hT) ?_
              refine G_iload_n (i := 1) dX11_colours_61 rfl rfl ?_
              refine G_cVv (as := [.inr (some 13), .inl c]) qX11_217 (x_choose' d τ h hT (by omega) (by omega) (y.topok x) (by omega) (y.h9 x) c (by omega) (x_cnt h (h 81 20).toNat) (by rw [pic.1])) rfl rfl (Nat.le_of_ble_eq_true rfl) (o18 hT) dX11_colours_62 (fun g e1 => ?_)
              obtain ⟨⟨e1, e2⟩, e3⟩ := e1
              refine G_iload_n (i := 2) dX11_colours_65 rfl rfl ?_
              refine G_iconst dX11_colours_66 ?_
              refine G_icmp_ne (tgt := 80) dX11_colours_67 (by decide) (by omega) (by decide) (fun _ => ?_) (fun q => absurd q c_1)
              refine G_aload_n (i := 0) dX11_colours_80 rfl rfl ?_
              refine G_getR fX11_63 rfl dX11_colours_81 (o0 hT) (r0_9 hT) ?_
              refine G_getR fX11_224 rfl dX11_colours_84 (o18 hT) (r18_5 hT) ?_
              refine G_iload_n (i := 2) dX11_colours_87 rfl rfl ?_
              refine G_iald (v := g 23 ((w).toNat)) dX11_colours_88 (o23 hT) (by omega) rfl ?_
              refine G_iretZ rfl dX11_colours_89 ?_
              refine ⟨?_, e3⟩
              unfold x_colV; rw [if_neg (by omega), if_neg (by omega), if_neg (by omega)]
              rw [if_neg (by omega)]
              exact e2 w.toNat (by omega)
            · refine G_bipush dX11_colours_50 (by decide) ?_
              refine G_iretZ rfl dX11_colours_52 ?_
              exact ⟨by unfold x_colV; (repeat (first | rw [if_pos (by omega)] | rw [if_neg (by omega)])), fun _ _ _ _ _ => rfl⟩
        · refine G_bipush dX11_colours_25 (by decide) ?_
          refine G_iretZ rfl dX11_colours_27 ?_
          exact ⟨by unfold x_colV; (repeat (first | rw [if_pos (by omega)] | rw [if_neg (by omega)])), fun _ _ _ _ _ => rfl⟩
    · refine G_iconst dX11_colours_13 ?_
      refine G_iretZ rfl dX11_colours_14 ?_
      exact ⟨by unfold x_colV; (repeat (first | rw [if_pos (by omega)] | rw [if_neg (by omega)])), fun _ _ _ _ _ => rfl⟩

theorem x_colV_c {h h1 : HT} (kp : KEEP h h1) (c w : Int) : x_colV h1 c w = x_colV h c w := by
  have k : ∀ a i, ¬ SCR a i → h1 a i = h a i := kp
  have ec : ∀ j, x_cnt h1 j = x_cnt h j := x_cnt_c (k 13 0 (by unfold SCR; omega)) (k 13 1 (by unfold SCR; omega)) (fun i => k 16 i (by unfold SCR; omega)) (fun i => k 19 i (by unfold SCR; omega)) (fun i => k 20 i (by unfold SCR; omega)) (fun i => k 21 i (by unfold SCR; omega))
  unfold x_colV
  rw [k 81 1 (by unfold SCR; omega), k 81 15 (by unfold SCR; omega), k 81 20 (by unfold SCR; omega), ec]
theorem op_colours {τ : TT} {h : HT} (s : SIM τ h) (c w : Int) (r_c : -2147483648 ≤ c ∧ c ≤ 2147483647) (r_w : -2147483648 ≤ w ∧ w ≤ 2147483647) : OPS mX11_colours mX12_colours 20 0 0 [.inl c, .inl w] τ h := by
  obtain ⟨hT, x, y⟩ := s
  refine OPS_q ⟨hT, x, y⟩ (fun v h1 => v = x_colV h c w ∧ RF h h1) (fun d => S_mono ?_ (x_coloursM (d + 18) τ h hT x y c w r_c r_w)) (fun d v h1 p1 kp s1 => S_mono ?_ (m_colours (d + 17) τ h1 hT c w r_c r_w s1.2.1 s1.2.2.ok_ s1.2.2.gs_)) (fun v h1 p1 _ j => p1.2 100 j (by decide) (by decide))
  · rintro r τ2 h2 ⟨rfl, v, rfl, q1, q2⟩
    exact ⟨rfl, v, rfl, ⟨q1, fun a i z1 z2 => q2 a i (by omega) (by omega) (by omega)⟩, fun a i q => q2 a i (by unfold SCR at q; omega) (by unfold SCR at q; omega) (by unfold SCR at q; omega)⟩
  · rintro r τ2 h2 ⟨rfl, v', rfl, q1, q2, q3, q4⟩
    have x1 := s1.2.1
    have n9 := x1.n9
    refine ⟨rfl, v', rfl, ?_⟩
    rw [p1.1, ← x_colV_c kp]
    unfold x_colV
    by_cases g1 : (-1 ≤ w ∧ w ≤ h1 81 1 - 1)
    · rw [if_neg (fun z => z g1)]
      by_cases g2 : (1 ≤ c ∧ c ≤ 4)
      · rw [if_neg (fun z => z g2)]
        by_cases g3 : (h1 81 15 = 0 ∨ 6 < h1 81 1)
        · obtain ⟨e1, e2⟩ := q3 g1 g2 g3
          rw [if_pos g3, e2]
          exact ⟨e1, KEEP.rf, s1.2.2.gs_⟩
        · obtain ⟨a, am, ev, fr, hg⟩ := q4 g1 g2 g3
          rw [if_neg g3]
          have ce := col_e x1 s1.2.2 (c := c.toNat) (n := (h1 81 1).toNat) (by omega) (by omega) am
          refine ⟨?_, fun b i q => fr b i (by unfold SCR at q; omega) (by unfold SCR at q; omega), hg⟩
          rw [ev]
          by_cases z : w < 0
          · rw [if_pos z, if_pos z]; exact ce.1
          · rw [if_neg z, if_neg z]; exact ce.2 w.toNat (by omega)
      · obtain ⟨e1, e2⟩ := q2 g1 g2
        rw [if_pos g2, e2]
        exact ⟨e1, KEEP.rf, s1.2.2.gs_⟩
    · obtain ⟨e1, e2⟩ := q1 g1
      rw [if_pos g1, e2]
      exact ⟨e1, KEEP.rf, s1.2.2.gs_⟩
