/-! operations: figure, side by side -/
theorem sim_fig {τ : TT} {h : HT} (s : SIM τ h) {τ2 : TT} (H0 : HT) (t2 : TK τ2) (kp : ∀ a i : Nat, (a ≠ 43 ∧ a ≠ 44 ∧ a ≠ 42 ∧ ¬ (a = 39 ∧ (i = 1 ∨ i = 3 ∨ i = 5 ∨ i = 7)) ∧ a ≠ 105 ∧ a ≠ 106 ∧ a ≠ 103 ∧ a ≠ 102 ∧ ¬ (a = 81 ∧ (i = 32 ∨ i = 31 ∨ i = 27 ∨ i = 26)) ∧ a < τ.1) → H0 a i = h a i) (e27 : H0 81 27 = 0) (e393 : H0 39 3 = 0) (f2 : 0 ≤ H0 81 26 ∧ H0 81 26 ≤ 10) (ma2 : ∀ k : Nat, (k : Int) < H0 81 26 → 1 ≤ H0 102 k ∧ H0 102 k ≤ 300) (to2 : ∀ f k : Nat, (f : Int) < H0 81 26 → (k : Int) < H0 102 f → f_okc (H0 103 (300 * f + k))) (fg2 : FGS τ2 H0 (H0 81 26).toNat (figL H0)) (rf2 : ∀ k : Nat, τ2.2.2.2 1 k = τ.2.2.2 1 k) (ob2 : ∀ o c : Nat, ob_ τ o c → ob_ τ2 o c) (sz2 : (τ2.1 : Int) = 126 + h 81 0 + 2 * H0 81 26) : SIM τ2 H0 := by
  obtain ⟨hT, x, y⟩ := s
  have T0 := hT.1
  generalize hH : H0 = H
  have o81_0 : H 81 0 = h 81 0 := by rw [← hH]; exact kp _ _ (by omega)
  have o81_1 : H 81 1 = h 81 1 := by rw [← hH]; exact kp _ _ (by omega)
  have o81_11 : H 81 11 = h 81 11 := by rw [← hH]; exact kp _ _ (by omega)
  have o81_14 : H 81 14 = h 81 14 := by rw [← hH]; exact kp _ _ (by omega)
  have o81_15 : H 81 15 = h 81 15 := by rw [← hH]; exact kp _ _ (by omega)
  have o81_20 : H 81 20 = h 81 20 := by rw [← hH]; exact kp _ _ (by omega)
  have o81_55 : H 81 55 = h 81 55 := by rw [← hH]; exact kp _ _ (by omega)
  have q0_1 : H 0 1 = h 0 1 := by rw [← hH]; exact kp _ _ (by omega)
  have q0_6 : H 0 6 = h 0 6 := by rw [← hH]; exact kp _ _ (by omega)
  have q2_1 : H 2 1 = h 2 1 := by rw [← hH]; exact kp _ _ (by omega)
  have q6_0 : H 6 0 = h 6 0 := by rw [← hH]; exact kp _ _ (by omega)
  have q6_1 : H 6 1 = h 6 1 := by rw [← hH]; exact kp _ _ (by omega)
  have q6_2 : H 6 2 = h 6 2 := by rw [← hH]; exact kp _ _ (by omega)
  have q11_1 : H 11 1 = h 11 1 := by rw [← hH]; exact kp _ _ (by omega)
  have q13_0 : H 13 0 = h 13 0 := by rw [← hH]; exact kp _ _ (by omega)
  have q13_1 : H 13 1 = h 13 1 := by rw [← hH]; exact kp _ _ (by omega)
  have q18_3 : H 18 3 = h 18 3 := by rw [← hH]; exact kp _ _ (by omega)
  have o82 : ∀ k, H 82 k = h 82 k := fun k => by rw [← hH]; exact kp _ _ (by omega)
  have o83 : ∀ k, H 83 k = h 83 k := fun k => by rw [← hH]; exact kp _ _ (by omega)
  have o84 : ∀ k, H 84 k = h 84 k := fun k => by rw [← hH]; exact kp _ _ (by omega)
  have o85 : ∀ k, H 85 k = h 85 k := fun k => by rw [← hH]; exact kp _ _ (by omega)
  have o86 : ∀ k, H 86 k = h 86 k := fun k => by rw [← hH]; exact kp _ _ (by omega)
  have o87 : ∀ k, H 87 k = h 87 k := fun k => by rw [← hH]; exact kp _ _ (by omega)
  have o88 : ∀ k, H 88 k = h 88 k := fun k => by rw [← hH]; exact kp _ _ (by omega)
  have o89 : ∀ k, H 89 k = h 89 k := fun k => by rw [← hH]; exact kp _ _ (by omega)
  have o90 : ∀ k, H 90 k = h 90 k := fun k => by rw [← hH]; exact kp _ _ (by omega)
  have o93 : ∀ k, H 93 k = h 93 k := fun k => by rw [← hH]; exact kp _ _ (by omega)
  have o94 : ∀ k, H 94 k = h 94 k := fun k => by rw [← hH]; exact kp _ _ (by omega)
  have o95 : ∀ k, H 95 k = h 95 k := fun k => by rw [← hH]; exact kp _ _ (by omega)
  have o96 : ∀ k, H 96 k = h 96 k := fun k => by rw [← hH]; exact kp _ _ (by omega)
  have o97 : ∀ k, H 97 k = h 97 k := fun k => by rw [← hH]; exact kp _ _ (by omega)
  have o98 : ∀ k, H 98 k = h 98 k := fun k => by rw [← hH]; exact kp _ _ (by omega)
  have o99 : ∀ k, H 99 k = h 99 k := fun k => by rw [← hH]; exact kp _ _ (by omega)
  have o104 : ∀ k, H 104 k = h 104 k := fun k => by rw [← hH]; exact kp _ _ (by omega)
  have o122 : ∀ k, H 122 k = h 122 k := fun k => by rw [← hH]; exact kp _ _ (by omega)
  have o123 : ∀ k, H 123 k = h 123 k := fun k => by rw [← hH]; exact kp _ _ (by omega)
  have o124 : ∀ k, H 124 k = h 124 k := fun k => by rw [← hH]; exact kp _ _ (by omega)
  have o3 : ∀ k, H 3 k = h 3 k := fun k => by rw [← hH]; exact kp _ _ (by omega)
  have o4 : ∀ k, H 4 k = h 4 k := fun k => by rw [← hH]; exact kp _ _ (by omega)
  have o5 : ∀ k, H 5 k = h 5 k := fun k => by rw [← hH]; exact kp _ _ (by omega)
  have o7 : ∀ k, H 7 k = h 7 k := fun k => by rw [← hH]; exact kp _ _ (by omega)
  have o8 : ∀ k, H 8 k = h 8 k := fun k => by rw [← hH]; exact kp _ _ (by omega)
  have o9 : ∀ k, H 9 k = h 9 k := fun k => by rw [← hH]; exact kp _ _ (by omega)
  have o12 : ∀ k, H 12 k = h 12 k := fun k => by rw [← hH]; exact kp _ _ (by omega)
  have o14 : ∀ k, H 14 k = h 14 k := fun k => by rw [← hH]; exact kp _ _ (by omega)
  have o15 : ∀ k, H 15 k = h 15 k := fun k => by rw [← hH]; exact kp _ _ (by omega)
  have o16 : ∀ k, H 16 k = h 16 k := fun k => by rw [← hH]; exact kp _ _ (by omega)
  have o17 : ∀ k, H 17 k = h 17 k := fun k => by rw [← hH]; exact kp _ _ (by omega)
  have o19 : ∀ k, H 19 k = h 19 k := fun k => by rw [← hH]; exact kp _ _ (by omega)
  have o20 : ∀ k, H 20 k = h 20 k := fun k => by rw [← hH]; exact kp _ _ (by omega)
  have o21 : ∀ k, H 21 k = h 21 k := fun k => by rw [← hH]; exact kp _ _ (by omega)
  have o41 : ∀ k, H 41 k = h 41 k := fun k => by rw [← hH]; exact kp _ _ (by omega)
  have o121 : ∀ k, H 121 k = h 121 k := fun k => by rw [← hH]; exact kp _ _ (by omega)
  have o100 : ∀ k, H 100 k = h 100 k := fun k => by rw [← hH]; exact kp _ _ (by omega)
  have hst : ∀ a k : Nat, 24 ≤ a → a ≤ 27 → H a k = h a k := fun a k ha hb => by rw [← hH]; exact kp _ _ (by omega)
  have htp : ∀ a k : Nat, 69 ≤ a → a ≤ 80 → H a k = h a k := fun a k ha hb => by rw [← hH]; exact kp _ _ (by omega)
  refine ⟨?_, ⟨?_, ?_, ?_, ?_, ?_, ?_, ?_, ?_, ?_, ?_, ?_, ?_, ?_, ?_, ?_, ?_, ?_, ?_, ?_, ?_, ?_, ?_, ?_, ?_, ?_, ?_, ?_, ?_, ?_, ?_, ?_, ?_⟩, ⟨?_, ?_, ?_, ?_, ?_, ?_, ?_, ?_, ?_, ?_, ?_, ?_, ?_, ?_, ?_, ?_, ?_, ?_, ?_, ?_, ?_, ?_, ?_, ?_, ?_, ?_, ?_, ?_, ?_⟩⟩
  · exact t2
  · simp only [o81_0]; exact x.p_
  · simp only [o81_1]; exact x.n_
  · simp only [o81_1, o81_11]; exact x.d_
  · simp only [o81_1, o81_14]; exact x.s_
  · simp only [o81_1, o81_15]; exact x.r_
  · simp only [o81_20]; exact x.t_
  · rw [← hH]; exact f2
  · rw [← hH, e27]; omega
  · simp only [o81_55]; exact x.a_
  · simp only [o82]; exact x.ki_
  · simp only [o83]; exact x.re_
  · simp only [o84]; exact x.pa_
  · simp only [o85]; exact x.wh_
  · simp only [o81_1, o86]; exact x.ha_
  · simp only [o81_1, o86]; exact x.hi_
  · simp only [o87]; exact x.co_
  · simp only [o88]; exact x.le_
  · simp only [o89]; exact x.be_
  · simp only [o90]; exact x.cc_
  · simp only [o81_1, o81_14, o93]; exact x.st_
  · simp only [o94]; exact x.mk_
  · simp only [o95]; exact x.cr_
  · simp only [o96]; exact x.cm_
  · simp only [o97]; exact x.t7_
  · simp only [o98]; exact x.t8_
  · simp only [o99]; exact x.t9_
  · rw [← hH]; exact ma2
  · rw [← hH]; exact to2
  · simp only [o104]; exact x.tx_
  · simp only [o122]; exact x.so_
  · simp only [o123]; exact x.si_
  · simp only [o124]; exact x.it_
  · simp only [o81_0, q0_1]; exact y.pc_
  · intro k hk
    rw [o81_0] at hk
    obtain ⟨o, p1, p2, p3, p4, p5, p6, p7⟩ := y.pe_ k hk
    have pt := p3.1
    have hb : ∀ i : Nat, H o i = h o i := fun i => by rw [← hH]; exact kp _ _ (by omega)
    exact ⟨o, by rw [rf2]; exact p1, p2, ob2 o 5 p3, by rw [hb]; exact p4, by rw [hb, o82]; exact p5, by rw [hb, o83]; exact p6, by rw [hb, o84]; exact p7⟩
  · simp only [o81_55, q2_1]; exact y.ra_
  · simp only [o3, o121]; exact y.tr_
  · simp only [o81_1, o85, o86, o4]; exact y.wh_
  · simp only [o4]; exact y.wr_
  · simp only [o87, o5]; exact y.co_
  · simp only [o81_1, o81_14, o81_15, q6_0, q6_1, q6_2]; exact y.fn_
  · simp only [o81_1, o86, o7]; exact y.or_
  · simp only [o81_1, o88, o8]; exact y.le_
  · simp only [o81_1, o94, o9]; exact y.mk_
  · simp only [o81_1, o81_11, q0_6]; exact y.da_
  · simp only [o81_1, o81_14, q11_1]; exact y.dc_
  · simp only [o81_1, o81_14, o93, o12]; exact y.dd_
  · simp only [o81_1, o81_15, q13_0, q13_1]; exact y.cn_
  · intro r p hr hp; rw [o81_15] at hr; rw [o81_1] at hp; rw [o14, o15, o16, o95, o96, f_top_k o81_1 o95 o96]; exact y.cl_ r p hr hp
  · simp only [o14, o15]; exact y.cr_
  · simp only [o17]; exact y.cc_
  · simp only [o81_1, o81_11, o81_15, o90, o17]; exact y.ce_
  · simp only [o81_20, q18_3, o97, o98, o99, o19, o20, o21]; exact y.pi_
  · intro hd; rw [o81_11] at hd; rw [o81_1, show t_0 H = t_0 h from by unfold t_0; rw [show H 89 = h 89 from funext o89]]; exact (y.sf_ hd).fr (fun b j b1 b2 => hst b j (by omega) (by omega))
  · rw [← hH]; exact fg2
  · refine ⟨?_, fun k hk => ?_, fun k hk => ?_⟩
    · rw [← hH, e27, e393]
    · rw [o41]; exact y.tx_.2.1 k hk
    · rw [← hH, e27] at hk; omega
  · intro t ht; have := y.tp_ t ht; rw [htp (69 + 2 * t) 0 (by omega) (by omega), htp (69 + 2 * t) 1 (by omega) (by omega), o122, o123]; refine ⟨this.1, this.2.1, fun i hi => ?_⟩; rw [htp (70 + 2 * t) i (by omega) (by omega), o124]; exact this.2.2 i hi
  · simp only [o81_1, o81_11, o86]; exact y.nd_
  · simp only [o122, o123]; exact y.sn_
  · intro r p hr hp; rw [o81_15] at hr; rw [o81_1] at hp ⊢; rw [o95]; exact y.ok_ r p hr hp
  · simp only [o100]; exact y.gs_
  · rw [o81_0, ← hH]; exact sz2
theorem PR_c {h g : HT} (rf : RF h g) (n i : Nat) (stk : List Nat) (ah : Bool) (o : OT) : PR g n i stk ah o = PR h n i stk ah o := by
  have e9 : ∀ a, 81 ≤ a → a ≤ 125 → g a = h a := fun a z1 z2 => funext fun k => rf a k z1 z2
  have ef : figL g = figL h := funext fun f => by unfold figL; rw [e9 102 (by decide) (by decide), e9 103 (by decide) (by decide)]
  unfold PR
  rw [e9 104 (by decide) (by decide), e9 81 (by decide) (by decide), ef]
/-- nothing was kept -/
theorem sim_fig0 {τ : TT} {h : HT} (s : SIM τ h) {g h2 : HT} (fr : FRr h g) (e27 : h2 81 27 = 0) (kp : ∀ a i : Nat, a ≠ 105 → a ≠ 106 → a ≠ 103 → a ≠ 102 → (a = 81 → i ≠ 32 ∧ i ≠ 31 ∧ i ≠ 27 ∧ i ≠ 26) → h2 a i = hs_ g 39 3 0 a i) (k2 : ∀ f : Nat, (f : Int) < h 81 26 → h2 102 f = h 102 f) (k3 : ∀ k : Nat, (k : Int) < 300 * h 81 26 → h2 103 k = h 103 k) (e26 : h2 81 26 = h 81 26) : SIM τ h2 := by
  have f10 := s.2.1.f_
  have T0 := s.1.1
  have big : ∀ a k : Nat, 126 ≤ a → h2 a k = h a k := fun a k ha => by
    rw [kp a k (by omega) (by omega) (by omega) (by omega) (by omega), hs_na (by omega)]; exact fr a k (by omega) (by omega) (by omega) (by omega)
  have fl : ∀ f : Nat, f < (h 81 26).toNat → figL h2 f = figL h f := fun f hf => figL_c (k2 f (by omega)) (fun k hk => k3 _ (by have := s.2.1.ma_ f (by omega); omega))
  refine sim_fig s h2 s.1 (fun a i z => ?_) e27 ?_ (by rw [e26]; exact f10) (fun k hk => ?_) (fun f k hf hk => ?_) ?_ (fun _ => rfl) (fun _ _ q => q) (by rw [e26]; exact s.2.2.sz_)
  · rw [kp a i (by omega) (by omega) (by omega) (by omega) (by omega)]
    have e : hs_ g 39 3 0 a i = g a i := by unfold hs_; rw [if_neg (by omega)]
    rw [e]; exact fr a i (by omega) (by omega) (by omega) (by omega)
  · rw [kp 39 3 (by decide) (by decide) (by decide) (by decide) (by omega)]; exact hs_eq
  · rw [e26] at hk; rw [k2 k hk]; exact s.2.1.ma_ k hk
  · rw [e26] at hf; rw [k2 f hf] at hk
    rw [k3 _ (by have := s.2.1.ma_ f hf; omega)]; exact s.2.1.to_ f k hf hk
  · rw [e26]
    refine (s.2.2.fg_.fr ?_ big).cg fl
    rw [kp 39 1 (by decide) (by decide) (by decide) (by decide) (by omega), hs_ni (by decide)]; exact fr 39 1 (by decide) (by decide) (by decide) (by decide)
/-- a figure was kept -/
theorem sim_fig1 {τ : TT} {h : HT} (s : SIM τ h) {g h2 : HT} (fr : FRr h g) (o : OT) (ox : OX g o) (ok : OKo o) (o0 : 0 < o.1.length) (c10 : h 81 26 < 10) (e27 : h2 81 27 = 0) (kp : ∀ a i : Nat, a ≠ 105 → a ≠ 106 → a ≠ 103 → a ≠ 102 → (a = 81 → i ≠ 32 ∧ i ≠ 31 ∧ i ≠ 27 ∧ i ≠ 26) → h2 a i = hKp τ (hs_ g 39 3 0) o.1.length a i) (k2 : ∀ f : Nat, (f : Int) < h 81 26 → h2 102 f = h 102 f) (k3 : ∀ k : Nat, (k : Int) < 300 * h 81 26 → h2 103 k = h 103 k) (e26 : h2 81 26 = h 81 26 + 1) (el : h2 102 (h 81 26).toNat = o.1.length) (ec : ∀ k : Nat, k < o.1.length → o.1[k]? = some (h2 103 (300 * (h 81 26).toNat + k))) : SIM (tKp τ (hs_ g 39 3 0) o.1.length) h2 := by
  have f10 := s.2.1.f_
  have T0 := s.1.1
  have sz := s.2.2.sz_
  have p0 := s.2.1.p_
  have fg := s.2.2.fg_
  have g1 : g 39 1 = h 39 1 := fr 39 1 (by decide) (by decide) (by decide) (by decide)
  have g2 : hs_ g 39 3 0 39 1 = h 39 1 := by rw [hs_ni (by decide)]; exact g1
  have lN := ox.2.1
  have fl : ∀ f : Nat, f < (h 81 26).toNat → figL h2 f = figL h f := fun f hf => figL_c (k2 f (by omega)) (fun k hk => k3 _ (by have := s.2.1.ma_ f (by omega); omega))
  have kp2 : ∀ a i : Nat, (a ≠ 43 ∧ a ≠ 44 ∧ a ≠ 42 ∧ ¬ (a = 39 ∧ (i = 1 ∨ i = 3 ∨ i = 5 ∨ i = 7)) ∧ a ≠ 105 ∧ a ≠ 106 ∧ a ≠ 103 ∧ a ≠ 102 ∧ ¬ (a = 81 ∧ (i = 32 ∨ i = 31 ∨ i = 27 ∨ i = 26)) ∧ a < τ.1) → h2 a i = h a i := fun a i z => by
    rw [kp a i (by omega) (by omega) (by omega) (by omega) (by omega)]
    have e : hKp τ (hs_ g 39 3 0) o.1.length a i = g a i := by
      unfold hKp
      rw [show hs_ (hSt τ (hs_ g 39 3 0) 43 o.1.length) 39 1 (hs_ g 39 3 0 39 1 + 1) a i = hSt τ (hs_ g 39 3 0) 43 o.1.length a i from if_neg (by omega), hSt_o (by omega) (by omega)]
      unfold hs_; rw [if_neg (by omega)]
    rw [e]; exact fr a i (by omega) (by omega) (by omega) (by omega)
  have new1 : h2 τ.1 1 = (o.1.length : Int) := by
    rw [kp _ _ (by omega) (by omega) (by omega) (by omega) (by omega)]
    unfold hKp hSt
    rw [hs_na (by omega), hs_eq]
  have new2 : ∀ k : Nat, k < o.1.length → h2 (τ.1 + 1) k = g 43 k := fun k hk => by
    rw [kp _ _ (by omega) (by omega) (by omega) (by omega) (by omega)]
    unfold hKp hSt
    rw [hs_na (by omega), hs_na (by omega), hf_in ⟨Nat.zero_le _, hk⟩, hs_na (by decide)]
  have e391 : h2 39 1 = h 81 26 + 1 := by
    rw [kp _ _ (by decide) (by decide) (by decide) (by decide) (by omega)]
    unfold hKp
    rw [hs_eq, g2]
    have := fg.1
    omega
  have hT2 := TK_r (TK_St s.1 (by omega) o.1.length) (a := 40) (Or.inr (Or.inl rfl)) (hs_ g 39 3 0 39 1).toNat (some τ.1)
  refine sim_fig s h2 hT2 kp2 e27 ?_ (by omega) (fun k hk => ?_) (fun f k hf hk => ?_) ?_ (fun k => ?_) (fun b c q => ob_r (ob_r (ob_n (ob_n q)))) ?_
  · rw [kp 39 3 (by decide) (by decide) (by decide) (by decide) (by omega)]
    unfold hKp
    rw [hs_ni (by decide), hSt_o (by omega) (by omega)]; exact hs_eq
  · by_cases z : (k : Int) < h 81 26
    · rw [k2 k z]; exact s.2.1.ma_ k z
    · rw [show k = (h 81 26).toNat by omega, el]; omega
  · by_cases z : (f : Int) < h 81 26
    · rw [k2 f z] at hk; rw [k3 _ (by have := s.2.1.ma_ f z; omega)]; exact s.2.1.to_ f k z hk
    · have ef : f = (h 81 26).toNat := by omega
      rw [ef] at hk ⊢
      rw [el] at hk
      exact ok _ (List.mem_of_getElem? (ec k (by omega)))
  · have fgc := fg.1
    refine ⟨by rw [e391]; omega, by omega, fun f hf => ?_⟩
    by_cases z : f < (h 81 26).toNat
    · obtain ⟨b, L, b1, b2, b3, b4, b5, b6⟩ := fg.2.2 f z
      have bt := b3.2.1.1
      have hb : ∀ a i : Nat, 126 ≤ a → a < τ.1 → h2 a i = h a i := fun a i z1 z2 => kp2 a i (by omega)
      refine ⟨b, L, ?_, b2, ST_r (ST_r (ST_n (ST_n b3)) (by omega)) (by omega), b4, by rw [hb b 1 b2 (by omega)]; exact b5, ?_⟩
      · show (if 40 = 40 ∧ f = (hs_ g 39 3 0 39 1).toNat then some τ.1 else if 40 = τ.1 ∧ f = 0 then some (τ.1 + 1) else if 40 = τ.1 + 1 then none else if 40 = τ.1 then none else τ.2.2.2 40 f) = some b
        rw [if_neg (by rw [g2]; omega), if_neg (by omega), if_neg (by omega), if_neg (by omega)]; exact b1
      · rw [fl f z, stL_c (hb b 1 b2 (by omega)) (fun k => hb (b + 1) k (by omega) (by omega))]; exact b6
    · have ef : f = (h 81 26).toNat := by omega
      refine ⟨τ.1, o.1.length, ?_, T0, ST_r (ST_new lN) (by omega), lN, by rw [new1]; omega, ?_⟩
      · show (if 40 = 40 ∧ f = (hs_ g 39 3 0 39 1).toNat then some τ.1 else _) = some τ.1
        rw [if_pos ⟨rfl, by rw [g2]; omega⟩]
      · rw [ef]
        refine List.ext_getElem? (fun k => ?_)
        by_cases hk : k < o.1.length
        · rw [stL_at (by rw [new1]; omega), figL_at (by rw [el]; omega), new2 k hk, ← ox.2.2.1 k hk, ec k hk]
        · rw [List.getElem?_eq_none (by rw [stL_len, new1]; omega), List.getElem?_eq_none (by rw [figL_len, el]; omega)]
  · show (if 1 = 40 ∧ k = (hs_ g 39 3 0 39 1).toNat then some τ.1 else if 1 = τ.1 ∧ k = 0 then some (τ.1 + 1) else if 1 = τ.1 + 1 then none else if 1 = τ.1 then none else τ.2.2.2 1 k) = τ.2.2.2 1 k
    rw [if_neg (by omega), if_neg (by omega), if_neg (by omega), if_neg (by omega)]
  · show ((τ.1 + 1 + 1 : Nat) : Int) = _
    omega
theorem op_figure {τ : TT} {h : HT} (s : SIM τ h) : OPS mX11_figure mX12_figure 20 2 302 [] τ h := by
  intro d
  have T0 := s.1.1
  have sz := s.2.2.sz_
  have p0 := s.2.1.p_
  have f10 := s.2.1.f_
  have fgc := s.2.2.fg_.1
  obtain ⟨r0, hr⟩ : ∃ r0, PR h ((h 81 27).toNat + 1) 0 [] false ([], false) = r0 := ⟨_, rfl⟩
  have pg := PR_good s.2.1 ((h 81 27).toNat + 1)
  rw [hr] at pg
  refine S_mono ?_ (x_figureM (d + 15) τ h s.1 s.2.1 s.2.2 r0 hr)
  rintro r_ τ1 h1 ⟨z1, z2⟩
  by_cases c : h 81 26 = 10
  · obtain ⟨rfl, rfl, rfl⟩ := z1 c
    refine ⟨-4, rfl, s.1, fun e => S_mono ?_ (m_figure (e + 17) τ1 h1 s.1 s.2.1)⟩
    rintro r2 τ2 h2 ⟨rfl, w, rfl, q1, q2⟩
    obtain ⟨e1, e2⟩ := q1 c
    exact ⟨by rw [e1], by rw [e2]; exact s⟩
  · obtain ⟨g, fr, y1, y2, y3⟩ := z2 c
    have rfg : RF h (hs_ g 39 3 0) := fun a i u1 u2 => by rw [hs_na (by omega)]; exact fr a i (by omega) (by omega) (by omega) (by omega)
    have low : ∀ (h1 : HT), RF h h1 → PR h1 ((h1 81 27).toNat + 1) 0 [] false ([], false) = r0 := fun h1 rf => by rw [PR_c rf, rf 81 27 (by decide) (by decide)]; exact hr
    by_cases a1 : r0.1 = -1
    · by_cases a2 : r0.2.2 = true
      · obtain ⟨rfl, rfl, rfl⟩ := y2 a1 a2
        refine ⟨-2, rfl, s.1, fun e => S_mono ?_ (m_figure (e + 17) τ1 _ s.1 (s.2.1.ref rfg))⟩
        rintro r2 τ2 h2 ⟨rfl, w, rfl, q1, q2⟩
        obtain ⟨u1, u2, u3, u4, u5, u6, u7⟩ := q2 (by rw [rfg 81 26 (by decide) (by decide)]; exact c) r0 (low _ rfg).symm
        rw [rfg 81 26 (by decide) (by decide)] at u3 u4
        obtain ⟨v1, v2⟩ := u6 a1 a2
        exact ⟨by rw [v1], sim_fig0 s fr u1 u2 (fun f hf => (u3 f hf).trans (rfg _ _ (by decide) (by decide))) (fun k hk => (u4 k hk).trans (rfg _ _ (by decide) (by decide))) (v2.trans (rfg _ _ (by decide) (by decide)))⟩
      · obtain ⟨ox, rfl, rfl, rfl⟩ := y3 a1 a2
        have g2 : hs_ g 39 3 0 39 1 = h 39 1 := by rw [hs_ni (by decide)]; exact fr 39 1 (by decide) (by decide) (by decide) (by decide)
        have lN := ox.2.1
        have rf1 : RF h (hKp τ (hs_ g 39 3 0) r0.2.1.length) := fun a i u1 u2 => by
          unfold hKp
          rw [hs_na (by omega), hSt_o (by omega) (by omega)]; exact rfg a i u1 u2
        have hT2 := TK_r (TK_St s.1 (by omega) r0.2.1.length) (a := 40) (Or.inr (Or.inl rfl)) (hs_ g 39 3 0 39 1).toNat (some τ.1)
        refine ⟨h 39 1, rfl, hT2, fun e => S_mono ?_ (m_figure (e + 17) _ _ hT2 (s.2.1.ref rf1))⟩
        rintro r2 τ2 h2 ⟨rfl, w, rfl, q1, q2⟩
        obtain ⟨u1, u2, u3, u4, u5, u6, u7⟩ := q2 (by rw [rf1 81 26 (by decide) (by decide)]; exact c) r0 (low _ rf1).symm
        rw [rf1 81 26 (by decide) (by decide)] at u3 u4
        obtain ⟨v1, v2, v3, v4⟩ := u7 a1 a2
        rw [rf1 81 26 (by decide) (by decide)] at v1 v2 v3 v4
        have pg2 := pg.2 a1
        refine ⟨by rw [v1]; congr 2; omega, ?_⟩
        exact sim_fig1 s fr r0.2 ox pg2.1 pg2.2 (by omega) u1 u2 (fun f hf => (u3 f hf).trans (rf1 _ _ (by decide) (by decide))) (fun k hk => (u4 k hk).trans (rf1 _ _ (by decide) (by decide))) v2 v3 v4
    · obtain ⟨rfl, rfl, rfl⟩ := y1 a1
      refine ⟨-10 - r0.1, rfl, s.1, fun e => S_mono ?_ (m_figure (e + 17) τ1 _ s.1 (s.2.1.ref rfg))⟩
      rintro r2 τ2 h2 ⟨rfl, w, rfl, q1, q2⟩
      obtain ⟨u1, u2, u3, u4, u5, u6, u7⟩ := q2 (by rw [rfg 81 26 (by decide) (by decide)]; exact c) r0 (low _ rfg).symm
      rw [rfg 81 26 (by decide) (by decide)] at u3 u4
      obtain ⟨v1, v2⟩ := u5 a1
      exact ⟨by rw [v1], sim_fig0 s fr u1 u2 (fun f hf => (u3 f hf).trans (rfg _ _ (by decide) (by decide))) (fun k hk => (u4 k hk).trans (rfg _ _ (by decide) (by decide))) (v2.trans (rfg _ _ (by decide) (by decide)))⟩
