/-! the class: figures tried -/
/-- the cloth of the class is this one -/
def CLH (h : HT) (n R : Int) (cr cm : Nat → Int) : Prop := h 13 0 = n ∧ h 13 1 = R ∧ (0 ≤ R ∧ R ≤ 100) ∧ (∀ q p : Nat, (q : Int) < R → (p : Int) < n → h 14 (9 * q + p) = cr (9 * q + p) ∧ h 15 (9 * q + p) = cm (9 * q + p)) ∧ ∀ k : Nat, k < 900 → (0 ≤ h 14 k ∧ h 14 k ≤ 8) ∧ (0 ≤ h 15 k ∧ h 15 k ≤ 2)
theorem CLH.fr {h g : HT} {n R : Int} {cr cm : Nat → Int} (x : CLH h n R cr cm) (e : ∀ a i : Nat, 13 ≤ a → a ≤ 15 → g a i = h a i) : CLH g n R cr cm := by
  obtain ⟨x1, x2, x3, x4, x5⟩ := x
  refine ⟨(e 13 0 (by decide) (by decide)).trans x1, (e 13 1 (by decide) (by decide)).trans x2, x3, fun q p hq hp => ?_, fun k hk => ?_⟩
  · rw [e 14 _ (by decide) (by decide), e 15 _ (by decide) (by decide)]; exact x4 q p hq hp
  · rw [e 14 _ (by decide) (by decide), e 15 _ (by decide) (by decide)]; exact x5 k hk
theorem t_pass_1 {n k p w : Int} {T : TR} : t_pass n (k, T.2) p w = (t_pass n T p w).map (fun T' => (k, T'.2)) := by
  by_cases h1 : n ≤ p
  · unfold t_pass; rw [if_pos h1, if_pos h1]; rfl
  · obtain ⟨A, hA⟩ : ∃ A, (if w = 0 then T.2.2.1 p.toNat else T.2.2.1 (f_aft n p).toNat) = A := ⟨_, rfl⟩
    obtain ⟨B, hB⟩ : ∃ B, (if w = 0 then T.2.2.1 (f_aft n p).toNat else T.2.2.1 p.toNat) = B := ⟨_, rfl⟩
    rw [t_pass_e (T := (k, T.2)) h1 rfl hA hB, t_pass_e (T := T) h1 rfl hA hB]
    dsimp only
    by_cases z : T.2.2.2.1 A.toNat < 1 ∨ T.2.2.2.1 B.toNat < 2
    · rw [if_pos z, if_pos z]; rfl
    · rw [if_neg z, if_neg z]; rfl
theorem t_step_p {n R : Int} {cr cm : Nat → Int} {T : TR} {s : Int} (h1 : s < 100) (hT : T.1 ≤ 300) : t_step n R cr cm T s = if (t_tk n T s).1 = 0 then some (t_tk n T s).2 else none := by
  have et : t_tk n T s = t_tp n T (s.tdiv 10) (s.tmod 10) := if_neg (by omega)
  rw [et]
  unfold t_step
  rw [if_neg (show ¬ 100 ≤ s by omega), t_pass_1]
  cases e : t_pass n T (s.tdiv 10) (s.tmod 10) with
  | none =>
    rw [t_tp_none e, if_neg (show ¬ (-3 : Int) = 0 by decide)]
    split <;> rfl
  | some T' =>
    rw [t_tp_some e]
    by_cases z : 300 ≤ T.1
    · rw [if_pos z, if_neg (show ¬ (-4 : Int) = 0 by decide), if_pos (by omega)]
    · rw [if_neg z, if_pos rfl, if_neg (by omega)]; rfl
theorem t_step_w {n R : Int} {cr cm : Nat → Int} {T : TR} {s : Int} (h1 : 100 ≤ s) (hT : T.1 ≤ 300) (hR : R ≤ 100) : ((t_tk n T s).1 = 0 ∧ T.2.1 < R ∧ t_wB n cr cm T (s - 100) → t_step n R cr cm T s = some ((t_tk n T s).2.1, (t_tk n T s).2.2.1, (t_tk n T s).2.2.2.1, (t_tk n T s).2.2.2.2.1, fun _ => 0)) ∧ (¬ ((t_tk n T s).1 = 0 ∧ T.2.1 < R ∧ t_wB n cr cm T (s - 100)) → t_step n R cr cm T s = none) := by
  have et : t_tk n T s = t_tw n T (s - 100) := if_pos h1
  rw [et]
  have es : t_step n R cr cm T s = if T.1 = 300 then none else if t_wA n R T then (if t_wB n cr cm T (s - 100) then some (T.1 + 1, T.2.1 + 1, (fun p => T.2.2.1 (f_rot n.toNat (s - 100) p)), (fun p => T.2.2.2.1 p - (10 + T.2.1.tdiv 3)), fun _ => 0) else none) else none := by
    unfold t_step; rw [if_pos h1]; rfl
  rw [es]
  by_cases hl : t_len n T
  · by_cases hf : 300 ≤ T.1 ∨ 100 ≤ T.2.1
    · have e2 : t_tw n T (s - 100) = (-4, T) := by unfold t_tw; rw [if_pos hl, if_pos hf]
      rw [e2]
      refine ⟨fun q => absurd q.1 (show ¬ (-4 : Int) = 0 by decide), fun _ => ?_⟩
      by_cases z : T.1 = 300
      · rw [if_pos z]
      · rw [if_neg z, if_neg (fun q => by have := q.1; omega)]
    · have e2 : t_tw n T (s - 100) = (0, (T.1 + 1, T.2.1 + 1, (fun p => T.2.2.1 (f_rot n.toNat (s - 100) p)), (fun p => T.2.2.2.1 p - (10 + T.2.1.tdiv 3)), T.2.2.2.2)) := by unfold t_tw; rw [if_pos hl, if_neg hf]
      rw [e2, if_neg (by omega)]
      refine ⟨fun q => ?_, fun q => ?_⟩
      · rw [if_pos ⟨q.2.1, hl⟩, if_pos q.2.2]
      · by_cases z : t_wA n R T
        · rw [if_pos z, if_neg (fun w => q ⟨rfl, z.1, w⟩)]
        · rw [if_neg z]
  · have e2 : t_tw n T (s - 100) = (-3, T) := by unfold t_tw; rw [if_neg hl]
    rw [e2]
    refine ⟨fun q => absurd q.1 (show ¬ (-3 : Int) = 0 by decide), fun _ => ?_⟩
    by_cases z : T.1 = 300
    · rw [if_pos z]
    · rw [if_neg z, if_neg (fun q => hl q.2)]
theorem FT_cpy {n : Int} {h : HT} {a b : Nat} {T : TR} (hn : n ≤ 9) (hab : b + 4 < a ∨ a + 4 < b) (x : FT n h b T) : FT n (x_cpy h a b) a T := by
  obtain ⟨x0, x1, x2, x3⟩ := x
  unfold x_cpy
  refine ⟨?_, ?_, ?_, fun p hp => ⟨?_, ?_, ?_⟩⟩
  · rw [hf_na (by omega), hf_na (by omega), hf_na (by omega), hs_ni (by decide), hs_ni (by decide), hs_eq]; exact x0
  · rw [hf_na (by omega), hf_na (by omega), hf_na (by omega), hs_ni (by decide), hs_eq]; exact x1
  · rw [hf_na (by omega), hf_na (by omega), hf_na (by omega), hs_eq]; exact x2
  · rw [hf_na (by omega), hf_na (by omega), hf_in (by omega)]; exact (x3 p hp).1
  · rw [hf_na (by omega), hf_in (by omega)]; exact (x3 p hp).2.1
  · rw [hf_in (by omega)]; exact (x3 p hp).2.2
theorem x_cpy_fr {h : HT} {a b : Nat} : FRl a h (x_cpy h a b) := fun c j z => by
  unfold x_cpy
  rw [hf_na (by omega), hf_na (by omega), hf_na (by omega), hs_na (by omega), hs_na (by omega), hs_na (by omega)]
theorem x_unm_fr {h : HT} {a : Nat} : FRl a h (x_unm h a) := fun c j z => hf_na (by omega)
theorem row_e {g : HT} {a : Nat} {n R : Int} {cr cm : Nat → Int} {T : TR} {s : Int} (hn : 3 ≤ n ∧ n ≤ 9) (hs : 100 ≤ s) (ok : t_ok n T) (z0 : (t_tk n T s).1 = 0) (e2 : FT n g a (t_tk n T s).2) (cl : CLH g n R cr cm) : (0 ≤ g a 2 - 1 ∧ g a 2 - 1 < g 13 1 ∧ x_isr g a (g 13 0).toNat) ↔ ((t_tk n T s).1 = 0 ∧ T.2.1 < R ∧ t_wB n cr cm T (s - 100)) := by
  have tv := (t_tk_0 z0).2.2 hs
  rw [tv] at e2
  obtain ⟨f0, f1, f2, f3⟩ := e2
  dsimp only at f1 f2 f3
  obtain ⟨c1, c2, c3, c4, c5⟩ := cl
  have r0 := ok.2.1
  rw [f2, c2, c1]
  constructor
  · rintro ⟨q1, q2, q3⟩
    refine ⟨z0, by omega, fun p hp => ?_⟩
    have := q3 p hp
    rw [f2, show T.2.1 + 1 - 1 = T.2.1 by omega] at this
    have k := c4 T.2.1.toNat p (by omega) (by omega)
    rw [k.1, k.2, (f3 p (by omega)).1, (f3 p (by omega)).2.2] at this
    exact ⟨this.1.symm, this.2.symm⟩
  · rintro ⟨q1, q2, q3⟩
    refine ⟨by omega, by omega, fun p hp => ?_⟩
    rw [f2, show T.2.1 + 1 - 1 = T.2.1 by omega]
    have k := c4 T.2.1.toNat p (by omega) (by omega)
    rw [k.1, k.2, (f3 p (by omega)).1, (f3 p (by omega)).2.2]
    have := q3 p hp
    exact ⟨this.1.symm, this.2.symm⟩
theorem x_weaves (d : Nat) (τ : TT) (h : HT) (hT : TK τ) (a : Nat) (hF : FL τ a) (ha : 29 ≤ a ∧ a ≤ 34) (n R : Int) (cr cm : Nat → Int) (hn : 3 ≤ n ∧ n ≤ 9) (cl : CLH h n R cr cm) (T : TR) (ft : FT n h a T) (ok : t_ok n T) (s : Int) (hs : f_okc s) : S_ mX11_weaves (d + 3) 0 0 [.inr (some 0), .inr (some a), .inl s] τ h (Zi τ fun v h' => (t_step n R cr cm T s = none → v = 0) ∧ (∀ T', t_step n R cr cm T s = some T' → v = 1 ∧ FT n h' a T') ∧ FRl a h h') := by
  have hsr := f_okc_r hs
  have ok1 := ok.1
  have cl3 := cl.2.2.1
  refine S_go (k := 1) (ls := [some (.inr (some 0)), some (.inr (some a)), some (.inl s), none]) (by decide) rfl (Nat.le_of_ble_eq_true rfl) rfl ?_
  refine G_aload_n (i := 1) dX11_weaves_0 rfl rfl ?_
  refine G_iload_n (i := 2) dX11_weaves_1 rfl rfl ?_
  refine G_cVi (as := [.inl s]) qX11_346 (x_take d τ h a hF n T hn ft ok s hs) rfl rfl (Nat.le_of_ble_eq_true rfl) hF.1 dX11_weaves_2 (fun v1 g e1 => ?_)
  obtain ⟨e1, e2, e3⟩ := e1
  have tr := t_tk_r (n := n) (T := T) (s := s)
  rw [← e1] at tr
  have ok2 := t_tk_ok hn.1 ok hs
  have clg : CLH g n R cr cm := cl.fr (fun b j b1 b2 => e3 b j (by omega))
  refine G_if_eq (tgt := 10) dX11_weaves_5 (by decide) (by omega) (fun c_1 => ?_) (fun c_1 => ?_)
  · refine G_iload_n (i := 2) dX11_weaves_10 rfl rfl ?_
    refine G_bipush dX11_weaves_11 (by decide) ?_
    refine G_icmp_ge (tgt := 18) dX11_weaves_13 (by decide) (by omega) (by decide) (fun c_2 => ?_) (fun c_2 => ?_)
    · refine G_aload_n (i := 0) dX11_weaves_18 rfl rfl ?_
      refine G_getR fX11_56 rfl dX11_weaves_19 (o0 hT) (r0_8 hT) ?_
      refine G_aload_n (i := 1) dX11_weaves_22 rfl rfl ?_
      refine G_cVi (as := [.inr (some a)]) qX11_356 (x_isRowOf (d + 1) τ g hT a hF (by rw [e2.2.2.1]; exact ok2.2.1) (by rw [clg.2.1]; exact clg.2.2.1) (by rw [clg.1]; omega) (fun k hk => by rw [clg.1] at hk; rw [(e2.2.2.2 k hk).1, (e2.2.2.2 k hk).2.2]; have o3 := ok2.2.2.1 k hk; have o6 := ok2.2.2.2.2.2 k hk; omega) clg.2.2.2.2) rfl rfl (Nat.le_of_ble_eq_true rfl) (o13 hT) dX11_weaves_23 (fun v2 g2 e4 => ?_)
      obtain ⟨w1, w0, eg⟩ := e4
      rw [eg]
      clear eg
      have hv2 : v2 = 0 ∨ v2 = 1 := by by_cases z : (0 ≤ g a 2 - 1 ∧ g a 2 - 1 < g 13 1 ∧ x_isr g a (g 13 0).toNat); (exact Or.inr (w1 z)); (exact Or.inl (w0 z))
      refine G_istore_n (i := 3) (ls' := [some (.inr (some 0)), some (.inr (some a)), some (.inl s), some (.inl v2)]) dX11_weaves_26 rfl (by decide) rfl ?_
      refine G_aload_n (i := 1) dX11_weaves_27 rfl rfl ?_
      refine G_cVv (as := []) qX11_350 (x_unmark (d + 1) τ g a hF) rfl rfl (Nat.le_of_ble_eq_true rfl) hF.1 dX11_weaves_28 (fun h' e' => ?_)
      subst e'
      refine G_iload_n (i := 3) dX11_weaves_31 rfl rfl ?_
      refine G_zretZ rfl (by omega) dX11_weaves_32 ?_
      have re := row_e hn (by omega) ok (by omega) e2 clg
      have ts := t_step_w (n := n) (R := R) (cr := cr) (cm := cm) (T := T) (s := s) (by omega) (by omega) (by omega)
      refine ⟨fun q => ?_, fun T' q => ?_, e3.tr x_unm_fr⟩
      · exact w0 (fun z => by rw [ts.1 (re.mp z)] at q; cases q)
      · have z : (t_tk n T s).1 = 0 ∧ T.2.1 < R ∧ t_wB n cr cm T (s - 100) := Classical.byContradiction fun z => by rw [ts.2 z] at q; cases q
        rw [ts.1 z] at q
        cases q
        refine ⟨w1 (re.mpr z), ?_⟩
        obtain ⟨f0, f1, f2, f3⟩ := e2
        unfold x_unm
        exact ⟨(hf_na (by omega)).trans f0, (hf_na (by omega)).trans f1, (hf_na (by omega)).trans f2, fun p hp => ⟨(hf_na (by omega)).trans (f3 p hp).1, (hf_na (by omega)).trans (f3 p hp).2.1, hf_in (by omega)⟩⟩
    · refine G_iconst dX11_weaves_16 ?_
      refine G_zretZ rfl (by decide) dX11_weaves_17 ?_
      have es : t_step n R cr cm T s = some (t_tk n T s).2 := by rw [t_step_p (by omega) (by omega), if_pos (by omega)]
      exact ⟨fun q => (by rw [es] at q; cases q), fun T' q => (by rw [es] at q; cases q; exact ⟨rfl, e2⟩), e3⟩
  · refine G_iconst dX11_weaves_8 ?_
    refine G_zretZ rfl (by decide) dX11_weaves_9 ?_
    have hne : ¬ (t_tk n T s).1 = 0 := by omega
    have es : t_step n R cr cm T s = none := by by_cases z : s < 100; (rw [t_step_p z (by omega), if_neg hne]); (exact (t_step_w (by omega) (by omega) (by omega)).2 (fun q => hne q.1))
    exact ⟨fun _ => rfl, fun T' q => (by rw [es] at q; cases q), e3⟩

theorem drop_s {l : List Int} {k : Nat} {x : Int} (e : l[k]? = some x) : l.drop k = x :: l.drop (k + 1) := by
  obtain ⟨h1, h2⟩ := List.getElem?_eq_some_iff.mp e
  rw [List.drop_eq_getElem_cons h1, h2]
theorem x_weavesOn_L (d : Nat) (τ : TT) (h : HT) (hT : TK τ) (a : Nat) (hF : FL τ a) (ha : 29 ≤ a ∧ a ≤ 34) (n R : Int) (cr cm : Nat → Int) (hn : 3 ≤ n ∧ n ≤ 9) (cl : CLH h n R cr cm) (b L : Nat) (hS : ST τ b L) (hb : 126 ≤ b) (hL : L ≤ 300) (l : List Int) (hl : h b 1 = l.length ∧ l.length ≤ L) (hc : ∀ k : Nat, k < l.length → l[k]? = some (h (b + 1) k)) (okl : ∀ s ∈ l, f_okc s) (k0 : Int) : ∀ (n_ : Nat) (g : HT) (k : Nat) (T : TR), l.length - k < n_ → FT n g a T → t_ok n T → FRl a h g → k ≤ l.length → G_ mX11_weavesOn (d + 4) 0 0 3 [some (.inr (some 0)), some (.inr (some a)), some (.inr (some b)), some (.inl k0), some (.inl (k : Int))] [] τ g (Zi τ fun v h' => v = t_res (t_run n R cr cm T (l.drop k)) R ∧ FRl a h h') := by
  intro n_
  induction n_ with
  | zero => intro g k T hm_; exact absurd hm_ (Nat.not_lt_zero _)
  | succ n_ ih =>
    intro g k T hm_ ft ok fr hk
    have ok21 := ok.2.1
    have c13 := (fr 13 1 (by omega)).trans cl.2.1
    have cl3 := cl.2.2.1
    have ga2 := ft.2.2.1
    refine G_iload dX11_weavesOn_3 rfl ?_
    refine G_aload_n (i := 2) dX11_weavesOn_5 rfl rfl ?_
    refine G_getI (v := (l.length : Int)) fX11_174 rfl dX11_weavesOn_6 hS.1 (((fr b 1 (by omega)).trans hl.1)) ?_
    refine G_icmp_ge (tgt := 35) dX11_weavesOn_9 (by decide) (by omega) (by omega) (fun c_1 => ?_) (fun c_1 => ?_)
    · refine G_aload_n (i := 1) dX11_weavesOn_35 rfl rfl ?_
      refine G_getI (v := g a 2) fX11_364 rfl dX11_weavesOn_36 hF.1 rfl ?_
      refine G_aload_n (i := 0) dX11_weavesOn_39 rfl rfl ?_
      refine G_getR fX11_56 rfl dX11_weavesOn_40 (o0 hT) (r0_8 hT) ?_
      refine G_getI (v := g 13 1) fX11_188 rfl dX11_weavesOn_43 (o13 hT) rfl ?_
      refine G_icmp_ne (tgt := 53) dX11_weavesOn_46 (by decide) (by omega) (by omega) (fun c_2 => ?_) (fun c_2 => ?_)
      · refine G_iconst dX11_weavesOn_53 ?_
        refine G_zretZ rfl (by decide) dX11_weavesOn_54 ?_
        refine ⟨?_, fr⟩
        rw [List.drop_eq_nil_of_le (by omega)]
        show _ = (if T.2.1 = R then 1 else 0)
        have c1 := ft.2.2.1
        have c2 := (fr 13 1 (by omega)).trans cl.2.1
        first | rw [if_pos (by omega)] | rw [if_neg (by omega)]
      · refine G_iconst dX11_weavesOn_49 ?_
        refine G_goto (tgt := 54) dX11_weavesOn_50 (by decide) ?_
        refine G_zretZ rfl (by decide) dX11_weavesOn_54 ?_
        refine ⟨?_, fr⟩
        rw [List.drop_eq_nil_of_le (by omega)]
        show _ = (if T.2.1 = R then 1 else 0)
        have c1 := ft.2.2.1
        have c2 := (fr 13 1 (by omega)).trans cl.2.1
        first | rw [if_pos (by omega)] | rw [if_neg (by omega)]
    · refine G_aload_n (i := 0) dX11_weavesOn_12 rfl rfl ?_
      refine G_aload_n (i := 1) dX11_weavesOn_13 rfl rfl ?_
      refine G_aload_n (i := 2) dX11_weavesOn_14 rfl rfl ?_
      refine G_getR fX11_267 rfl dX11_weavesOn_15 hS.1 hS.2.2 ?_
      refine G_iload dX11_weavesOn_18 rfl ?_
      refine G_iald (v := h (b + 1) k) dX11_weavesOn_20 hS.2.1 (by omega) (fr (b + 1) k (by omega)) ?_
      have hok := okl _ (List.mem_of_getElem? (hc k (by omega)))
      refine G_cVi (as := [.inr (some a), .inl (h (b + 1) k)]) qX11_360 (x_weaves d τ g hT a hF ha n R cr cm hn (cl.fr (fun b j b1 b2 => fr b j (by omega))) T ft ok (h (b + 1) k) hok) rfl rfl (Nat.le_of_ble_eq_true rfl) (o0 hT) dX11_weavesOn_21 (fun v1 g2 e1 => ?_)
      obtain ⟨w0, w1, fr2⟩ := e1
      have hv1 : v1 = 0 ∨ v1 = 1 := by cases hq : t_step n R cr cm T (h (b + 1) k) with | none => exact Or.inl (w0 hq) | some T2 => exact Or.inr (w1 T2 hq).1
      refine G_if_ne (tgt := 29) dX11_weavesOn_24 (by decide) (by omega) (fun c_3 => ?_) (fun c_3 => ?_)
      · refine G_iinc (ls' := [some (.inr (some 0)), some (.inr (some a)), some (.inr (some b)), some (.inl k0), some (.inl ((k : Int) + 1))]) dX11_weavesOn_29 (by decide) rfl rfl ?_
        refine G_goto (tgt := 3) dX11_weavesOn_32 (by decide) ?_
        obtain ⟨T2, hq⟩ : ∃ T2, t_step n R cr cm T (h (b + 1) k) = some T2 := by cases hq : t_step n R cr cm T (h (b + 1) k) with | none => (have := w0 hq; omega) | some T2 => exact ⟨T2, rfl⟩
        refine G_mono ?_ (ih g2 (k + 1) T2 (by omega) (w1 T2 hq).2 (t_step_ok hn.1 cl.2.2.1.2 ok hok hq) (fr.tr fr2) (by omega))
        rintro r τ' h' ⟨q1, v, q2, q3, q4⟩
        refine ⟨q1, v, q2, ?_, q4⟩
        rw [drop_s (hc k (by omega)), t_run_1 hq]; exact q3
      · refine G_iconst dX11_weavesOn_27 ?_
        refine G_zretZ rfl (by decide) dX11_weavesOn_28 ?_
        have hq : t_step n R cr cm T (h (b + 1) k) = none := by cases hq : t_step n R cr cm T (h (b + 1) k) with | none => rfl | some T2 => (have := (w1 T2 hq).1; omega)
        refine ⟨?_, fr.tr fr2⟩
        rw [drop_s (hc k (by omega)), t_run_0 hq]; rfl

theorem x_weavesOn (d : Nat) (τ : TT) (h : HT) (hT : TK τ) (a : Nat) (hF : FL τ a) (ha : 29 ≤ a ∧ a ≤ 34) (n R : Int) (cr cm : Nat → Int) (hn : 3 ≤ n ∧ n ≤ 9) (cl : CLH h n R cr cm) (T : TR) (ft : FT n h a T) (ok : t_ok n T) (b L : Nat) (hS : ST τ b L) (hb : 126 ≤ b) (hL : L ≤ 300) (l : List Int) (hl : h b 1 = l.length ∧ l.length ≤ L) (hc : ∀ k : Nat, k < l.length → l[k]? = some (h (b + 1) k)) (okl : ∀ s ∈ l, f_okc s) (k : Nat) (hk : k ≤ l.length) : S_ mX11_weavesOn (d + 4) 0 0 [.inr (some 0), .inr (some a), .inr (some b), .inl (k : Int)] τ h (Zi τ fun v h' => v = t_res (t_run n R cr cm T (l.drop k)) R ∧ FRl a h h') := by
  refine S_go (k := 1) (ls := [some (.inr (some 0)), some (.inr (some a)), some (.inr (some b)), some (.inl (k : Int)), none]) (by decide) rfl (Nat.le_of_ble_eq_true rfl) rfl ?_
  refine G_iload_n (i := 3) dX11_weavesOn_0 rfl rfl ?_
  refine G_istore (ls' := [some (.inr (some 0)), some (.inr (some a)), some (.inr (some b)), some (.inl (k : Int)), some (.inl (k : Int))]) dX11_weavesOn_1 (by decide) rfl ?_
  exact x_weavesOn_L d τ h hT a hF ha n R cr cm hn cl b L hS hb hL l hl hc okl _ _ h k T (Nat.lt_succ_self _) ft ok FRl.rf hk

theorem XR.clh {τ : TT} {h : HT} (x : MI h) (y : XR τ h) : CLH h (h 81 1) (h 81 15) (h 95) (h 96) := ⟨y.cn_.1, y.cn_.2, x.r_, fun q p hq hp => ⟨(y.cl_ q p hq hp).1, (y.cl_ q p hq hp).2.1⟩, y.cr_⟩
theorem FRl_keep {h h' : HT} (x : FRl 34 h h') : KEEP h h' ∧ RF h h' := ⟨fun a i q => x a i (by unfold SCR at q; omega), fun a i z1 z2 => x a i (by omega)⟩
theorem KEEP_FRt {h h' : HT} (x : FRt h h') : KEEP h h' := fun a i q => x a i (by unfold SCR at q; omega) (by unfold SCR at q; omega) (by unfold SCR at q; omega) (fun z => by unfold SCR at q; omega)
theorem f_right_c {h h1 : HT} (rf : RF h h1) (f : Int) : f_right h1 f = f_right h f := by
  have e81 : ∀ k, h1 81 k = h 81 k := fun k => rf 81 k (by decide) (by decide)
  have e9 : ∀ a, 81 ≤ a → a ≤ 125 → h1 a = h a := fun a z1 z2 => funext fun k => rf a k z1 z2
  have t0 : t_0 h1 = t_0 h := by unfold t_0; rw [e9 89 (by decide) (by decide)]
  have fl : ∀ F, figL h1 F = figL h F := fun F => by unfold figL; rw [e9 102 (by decide) (by decide), e9 103 (by decide) (by decide)]
  unfold f_right
  rw [e81, e81, e81, e81, t0, fl, e9 95 (by decide) (by decide), e9 96 (by decide) (by decide)]
theorem x_rightM (d : Nat) (τ : TT) (h : HT) (hT : TK τ) (x : MI h) (y : XR τ h) (f : Int) (r_f : -2147483648 ≤ f ∧ f ≤ 2147483647) : S_ mX11_right (d + 5) 0 0 [.inr (some 0), .inl f] τ h (Zi τ fun v h' => v = f_right h f ∧ FRl 34 h h') := by
  have n9 := x.n9
  have d1 := x.d1
  have n_ := x.n_
  have fn := y.fn_
  have da := y.da_
  have cn := y.cn_
  have r_r_ := x.r_
  have s_s_ := x.s_
  have dc := y.dc_
  have pc := y.pc_
  have pp := x.p_
  have fgc := y.fg_.1
  have f10 := x.f_
  have ra := y.ra_
  have a100 := x.a_
  have pic := y.pi_
  have t40 := x.t_
  have txx := y.tx_
  have e80 := x.e_
  have dx := x.d_
  refine S_go (k := 1) (ls := [some (.inr (some 0)), some (.inl f), none]) (by decide) rfl (Nat.le_of_ble_eq_true rfl) rfl ?_
  refine G_aload_n (i := 0) dX11_right_0 rfl rfl ?_
  refine G_getR fX11_79 rfl dX11_right_1 (o0 hT) (r0_13 hT) ?_
  refine G_iload_n (i := 1) dX11_right_4 rfl rfl ?_
  refine G_cVr (as := [.inl f]) qX11_264 (x_figureAt (d + 4) τ h hT f (by omega) (by have := y.fg_.1; have := y.fg_.2.1; omega)) rfl rfl (Nat.le_of_ble_eq_true rfl) (o39 hT) dX11_right_5 (fun x' h' e' => ?_)
  obtain ⟨rfl, eh'⟩ := e'
  rw [eh']
  clear eh'
  by_cases hb : 0 ≤ f ∧ f < h 39 1
  · rw [if_pos hb]
    obtain ⟨b, Lb, b1, b2, b3, b4, b5, b6⟩ := y.fg_.2.2 (f).toNat (by have := y.fg_.1; omega)
    rw [b1]
    have bm := x.ma_ (f).toNat (by have := y.fg_.1; omega)
    obtain ⟨bc, be⟩ := stL_fig b5 b6
    refine G_astore_n (i := 2) (ls' := [some (.inr (some 0)), some (.inl f), some (.inr (some b))]) dX11_right_8 rfl (by decide) rfl ?_
    refine G_aload_n (i := 2) dX11_right_9 rfl rfl ?_
    refine G_ifnonnullS (tgt := 15) dX11_right_10 (by decide) ?_
    refine G_aload_n (i := 0) dX11_right_15 rfl rfl ?_
    refine G_getI (v := h 0 6) fX11_40 rfl dX11_right_16 (o0 hT) rfl ?_
    refine G_if_ne (tgt := 25) dX11_right_19 (by decide) (by omega) (fun c_1 => ?_) (fun c_1 => ?_)
    · refine G_aload_n (i := 0) dX11_right_25 rfl rfl ?_
      refine G_getR fX11_73 rfl dX11_right_26 (o0 hT) (r0_12 hT) ?_
      refine G_aload_n (i := 0) dX11_right_29 rfl rfl ?_
      refine G_getR fX11_67 rfl dX11_right_30 (o0 hT) (r0_10 hT) ?_
      refine G_cVv (as := [.inr (some 24)]) qX11_163 (x_copyF (d + 3) τ h 34 (fl34 hT) 24 (fl24 hT) (by decide)) rfl rfl (Nat.le_of_ble_eq_true rfl) (o34 hT) dX11_right_33 (fun h' e' => ?_)
      subst e'
      refine G_aload_n (i := 0) dX11_right_36 rfl rfl ?_
      refine G_aload_n (i := 0) dX11_right_37 rfl rfl ?_
      refine G_getR fX11_73 rfl dX11_right_38 (o0 hT) (r0_12 hT) ?_
      refine G_aload_n (i := 2) dX11_right_41 rfl rfl ?_
      refine G_iconst dX11_right_42 ?_
      refine G_cVi (as := [.inr (some 34), .inr (some b), .inl 0]) qX11_270 (x_weavesOn d τ (x_cpy h 34 24) hT 34 (fl34 hT) (by decide) (h 81 1) (h 81 15) (h 95) (h 96) (by omega) ((y.clh x).fr (fun b j b1 b2 => x_cpy_fr b j (by omega))) (t_0 h) (FT_cpy (by omega) (by decide) (y.sf_ (by omega))) (t_0_ok x (by omega)) b Lb b3 b2 b4 (figL h f.toNat) ⟨by rw [x_cpy_fr b 1 (by omega), figL_len]; omega, by rw [figL_len]; omega⟩ (fun k hk => by rw [figL_len] at hk; rw [x_cpy_fr (b + 1) k (by omega), be k hk]; exact figL_at hk) (figL_ok x (by omega)) 0 (Nat.zero_le _)) rfl rfl (Nat.le_of_ble_eq_true rfl) (o0 hT) dX11_right_43 (fun v1 g e1 => ?_)
      obtain ⟨e1, e2⟩ := e1
      have hv1 := t_res_r (t_run (h 81 1) (h 81 15) (h 95) (h 96) (t_0 h) ((figL h f.toNat).drop 0)) (h 81 15)
      rw [← e1] at hv1
      rw [List.drop_zero] at e1
      refine G_if_eq (tgt := 53) dX11_right_46 (by decide) (by omega) (fun c_2 => ?_) (fun c_2 => ?_)
      · refine G_iconst dX11_right_53 ?_
        refine G_iretZ rfl dX11_right_54 ?_
        refine ⟨?_, x_cpy_fr.tr e2⟩
        unfold f_right; rw [if_neg (by omega), if_neg (by omega), ← e1]
        omega
      · refine G_iconst dX11_right_49 ?_
        refine G_goto (tgt := 54) dX11_right_50 (by decide) ?_
        refine G_iretZ rfl dX11_right_54 ?_
        refine ⟨?_, x_cpy_fr.tr e2⟩
        unfold f_right; rw [if_neg (by omega), if_neg (by omega), ← e1]
        omega
    · refine G_bipush dX11_right_22 (by decide) ?_
      refine G_iretZ rfl dX11_right_24 ?_
      exact ⟨by unfold f_right; (repeat (first | rw [if_pos (by omega)] | rw [if_neg (by omega)])), FRl.rf⟩
  · rw [if_neg hb]
    refine G_astore_n (i := 2) (ls' := [some (.inr (some 0)), some (.inl f), some (.inr none)]) dX11_right_8 rfl (by decide) rfl ?_
    refine G_aload_n (i := 2) dX11_right_9 rfl rfl ?_
    refine G_ifnonnullN dX11_right_10 ?_
    refine G_iconst dX11_right_13 ?_
    refine G_iretZ rfl dX11_right_14 ?_
    exact ⟨by unfold f_right; (repeat (first | rw [if_pos (by omega)] | rw [if_neg (by omega)])), FRl.rf⟩

theorem op_right {τ : TT} {h : HT} (s : SIM τ h) (f : Int) (r_f : -2147483648 ≤ f ∧ f ≤ 2147483647) : OPS mX11_right mX12_right 20 0 0 [.inl f] τ h := by
  obtain ⟨hT, x, y⟩ := s
  refine OPS_q ⟨hT, x, y⟩ (fun v h1 => v = f_right h f ∧ RF h h1) (fun d => S_mono ?_ (x_rightM (d + 15) τ h hT x y f r_f)) (fun d v h1 p1 kp s1 => S_mono ?_ (m_right (d + 16) τ h1 hT f r_f s1.2.1)) (fun v h1 p1 _ j => p1.2 100 j (by decide) (by decide))
  · rintro r τ2 h2 ⟨rfl, w, rfl, q1, q2⟩
    exact ⟨rfl, w, rfl, ⟨q1, (FRl_keep q2).2⟩, (FRl_keep q2).1⟩
  · rintro r τ2 h2 ⟨rfl, w, rfl, q1, q2⟩
    refine ⟨rfl, w, rfl, ?_, KEEP_FRt q2, fun j hj => ?_⟩
    · rw [q1, p1.1, f_right_c p1.2]
    · rw [q2 100 j (by decide) (by decide) (by decide) (by omega)]; exact s1.2.2.gs_ j hj
