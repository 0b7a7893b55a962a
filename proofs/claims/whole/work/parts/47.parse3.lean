/-! the class: the reader's methods -/
/-- the figures that the class has -/
def FGS (τ : TT) (h : HT) (nf : Nat) (fig : Nat → List Int) : Prop := h 39 1 = nf ∧ nf ≤ 10 ∧ ∀ f : Nat, f < nf → ∃ a L : Nat, τ.2.2.2 40 f = some a ∧ 126 ≤ a ∧ ST τ a L ∧ L ≤ 300 ∧ (0 ≤ h a 1 ∧ h a 1 ≤ L) ∧ stL h a = fig f
theorem stL_c {h g : HT} {a : Nat} (e1 : g a 1 = h a 1) (e2 : ∀ k, g (a + 1) k = h (a + 1) k) : stL g a = stL h a := by
  unfold stL; rw [e1, show g (a + 1) = h (a + 1) from funext e2]
theorem FGS.fr {τ : TT} {h g : HT} {nf : Nat} {fig : Nat → List Int} (x : FGS τ h nf fig) (e1 : g 39 1 = h 39 1) (e2 : ∀ a k : Nat, 126 ≤ a → g a k = h a k) : FGS τ g nf fig := by
  obtain ⟨x1, x2, x3⟩ := x
  refine ⟨e1.trans x1, x2, fun f hf => ?_⟩
  obtain ⟨a, L, y1, y2, y3, y4, y5, y6⟩ := x3 f hf
  exact ⟨a, L, y1, y2, y3, y4, by rw [e2 a 1 y2]; exact y5, by rw [stL_c (e2 a 1 y2) (fun k => e2 (a + 1) k (by omega))]; exact y6⟩
theorem FGS.r {τ : TT} {h g : HT} {nf : Nat} {fig : Nat → List Int} (x : FGS τ h nf fig) (fr : FRr h g) : FGS τ g nf fig := x.fr (fr 39 1 (by decide) (by decide) (by decide) (by decide)) (fun a k ha => fr a k (by omega) (by omega) (by omega) (by omega))
/-- the reader's rows: the groups begun, what is read -/
def PX (g : HT) (stk : List Nat) (o : OT) : Prop := g 39 7 = stk.length ∧ stk.length ≤ 4 ∧ (∀ j : Nat, j < stk.length → g 44 (stk.length - 1 - j) = ((stk.getD j 0 : Nat) : Int)) ∧ (∀ s ∈ stk, s ≤ o.1.length) ∧ OX g o ∧ OKo o
theorem PX.grow {g g' : HT} {stk : List Nat} {o o' : OT} (x : PX g stk o) (om : OX g' o') (ok : OKo o') (fr : FRq g g') (hl : o.1.length ≤ o'.1.length) : PX g' stk o' := by
  obtain ⟨x1, x2, x3, x4, x5, x6⟩ := x
  exact ⟨(fr 39 7 (by decide) (by decide) (by decide)).trans x1, x2, fun j hj => (fr 44 _ (by decide) (by omega) (by omega)).trans (x3 j hj), fun s hs => Nat.le_trans (x4 s hs) hl, om, ok⟩
theorem OX_fr {g g' : HT} {o : OT} (x : OX g o) (e1 : g' 42 1 = g 42 1) (e2 : ∀ k, g' 43 k = g 43 k) (e3 : g' 39 5 = g 39 5) : OX g' o := by
  obtain ⟨a, b, c, e⟩ := x
  exact ⟨e1.trans a, b, fun i hi => by rw [e2]; exact c i hi, e3.trans e⟩
theorem PX.pop {g : HT} {s : Nat} {stk : List Nat} {o : OT} (x : PX g (s :: stk) o) : PX (hs_ g 39 7 (g 39 7 - 1)) stk o ∧ g 44 stk.length = (s : Int) ∧ s ≤ o.1.length := by
  obtain ⟨x1, x2, x3, x4, x5, x6⟩ := x
  simp only [List.length_cons] at x1 x2 x3
  refine ⟨⟨by rw [hs_eq]; omega, by omega, fun j hj => ?_, fun t ht => x4 t (List.mem_cons_of_mem _ ht), OX_fr x5 (hs_na (by decide)) (fun k => hs_na (by decide)) (hs_ni (by decide)), x6⟩, ?_, x4 s List.mem_cons_self⟩
  · have := x3 (j + 1) (by omega)
    rw [hs_na (by decide), show stk.length - 1 - j = stk.length + 1 - 1 - (j + 1) by omega, this]
    simp
  · have := x3 0 (by omega)
    simpa using this
theorem PX.opn {g : HT} {stk : List Nat} {o : OT} (x : PX g stk o) (h4 : stk.length < 4) : PX (hs_ (hs_ g 44 (g 39 7).toNat (g 42 1)) 39 7 (g 39 7 + 1)) (o.1.length :: stk) o := by
  obtain ⟨x1, x2, x3, x4, x5, x6⟩ := x
  have e7 : (g 39 7).toNat = stk.length := by omega
  rw [e7]
  refine ⟨by rw [hs_eq, List.length_cons]; omega, by rw [List.length_cons]; omega, fun j hj => ?_, fun t ht => ?_, OX_fr x5 ((hs_na (by decide)).trans (hs_na (by decide))) (fun k => (hs_na (by decide)).trans (hs_na (by decide))) ((hs_ni (by decide)).trans (hs_na (by decide))), x6⟩
  · rw [List.length_cons] at hj ⊢
    rw [hs_na (by decide)]
    rcases j with _ | j
    · rw [show stk.length + 1 - 1 - 0 = stk.length by omega, hs_eq]; exact x5.1
    · rw [show stk.length + 1 - 1 - (j + 1) = stk.length - 1 - j by omega, hs_ni (by omega), x3 j (by omega)]; simp
  · rcases List.mem_cons.mp ht with z | z
    · rw [z]; exact Nat.le_refl _
    · exact x4 t z
theorem x_figureAt (d : Nat) (τ : TT) (h : HT) (hT : TK τ) (n : Int) (r_n : -2147483648 ≤ n ∧ n ≤ 2147483647) (hf : 0 ≤ h 39 1 ∧ h 39 1 ≤ 10) : S_ mX7_figureAt d 0 0 [.inr (some 39), .inl n] τ h (Zr τ fun x h' => x = (if 0 ≤ n ∧ n < h 39 1 then τ.2.2.2 40 n.toNat else none) ∧ h' = h) := by
  refine S_go (k := 0) (ls := [some (.inr (some 39)), some (.inl n)]) (by decide) rfl (Nat.le_of_ble_eq_true rfl) rfl ?_
  refine G_iload_n (i := 1) dX7_figureAt_0 rfl rfl ?_
  refine G_if_lt (tgt := 21) dX7_figureAt_1 (by decide) (by omega) (fun c_1 => ?_) (fun c_1 => ?_)
  · refine G_null dX7_figureAt_21 ?_
    refine G_aretZ rfl dX7_figureAt_22 ?_
    exact ⟨by first | rw [if_pos (by omega)] | rw [if_neg (by omega)], rfl⟩
  · refine G_iload_n (i := 1) dX7_figureAt_4 rfl rfl ?_
    refine G_aload_n (i := 0) dX7_figureAt_5 rfl rfl ?_
    refine G_getI (v := h 39 1) fX7_17 rfl dX7_figureAt_6 (o39 hT) rfl ?_
    refine G_icmp_ge (tgt := 21) dX7_figureAt_9 (by decide) (by omega) (by omega) (fun c_2 => ?_) (fun c_2 => ?_)
    · refine G_null dX7_figureAt_21 ?_
      refine G_aretZ rfl dX7_figureAt_22 ?_
      exact ⟨by first | rw [if_pos (by omega)] | rw [if_neg (by omega)], rfl⟩
    · refine G_aload_n (i := 0) dX7_figureAt_12 rfl rfl ?_
      refine G_getR fX7_11 rfl dX7_figureAt_13 (o39 hT) (r39_0 hT) ?_
      refine G_iload_n (i := 1) dX7_figureAt_16 rfl rfl ?_
      refine G_aald (by decide) dX7_figureAt_17 (o40 hT) (by omega) rfl ?_
      refine G_goto (tgt := 22) dX7_figureAt_18 (by decide) ?_
      refine G_aretZ rfl dX7_figureAt_22 ?_
      exact ⟨by first | rw [if_pos (by omega)] | rw [if_neg (by omega)], rfl⟩

theorem x_openR (d : Nat) (τ : TT) (h : HT) (hT : TK τ) (stk : List Nat) (o : OT) (px : PX h stk o) : S_ mX7_open d 0 0 [.inr (some 39)] τ h (Zi τ fun v h' => (stk.length < 4 → v = 1 ∧ PX h' (o.1.length :: stk) o) ∧ (¬ stk.length < 4 → v = 0) ∧ FRr h h') := by
  have p1 := px.1
  have p2 := px.2.1
  refine S_go (k := 0) (ls := [some (.inr (some 39))]) (by decide) rfl (Nat.le_of_ble_eq_true rfl) rfl ?_
  refine G_aload_n (i := 0) dX7_open_0 rfl rfl ?_
  refine G_getI (v := h 39 7) fX7_42 rfl dX7_open_1 (o39 hT) rfl ?_
  refine G_iconst dX7_open_4 ?_
  refine G_icmp_lt (tgt := 10) dX7_open_5 (by decide) (by omega) (by decide) (fun c_1 => ?_) (fun c_1 => ?_)
  · refine G_aload_n (i := 0) dX7_open_10 rfl rfl ?_
    refine G_getR fX7_39 rfl dX7_open_11 (o39 hT) (r39_6 hT) ?_
    refine G_aload_n (i := 0) dX7_open_14 rfl rfl ?_
    refine G_getI (v := h 39 7) fX7_42 rfl dX7_open_15 (o39 hT) rfl ?_
    refine G_aload_n (i := 0) dX7_open_18 rfl rfl ?_
    refine G_getR fX7_31 rfl dX7_open_19 (o39 hT) (r39_4 hT) ?_
    refine G_getI (v := h 42 1) fX7_64 rfl dX7_open_22 (o42 hT) rfl ?_
    refine G_iastk ((h 39 7).toNat) dX7_open_25 (o44 hT) (by omega) rfl ?_
    refine G_aload_n (i := 0) dX7_open_26 rfl rfl ?_
    refine G_dup dX7_open_27 ?_
    refine G_getI (v := h 39 7) fX7_42 rfl dX7_open_28 (o39 hT) (hs_na (by decide)) ?_
    refine G_iconst dX7_open_31 ?_
    refine G_iadd dX7_open_32 ?_
    refine G_putI fX7_42 dX7_open_33 (o39 hT) ?_
    refine G_iconst dX7_open_36 ?_
    refine G_iretZ rfl dX7_open_37 ?_
    refine ⟨fun _ => ⟨rfl, px.opn (by omega)⟩, fun q => by omega, fun a i z1 z2 z3 z4 => ?_⟩
    rw [show ∀ (X : HT) v, hs_ X 39 7 v a i = X a i from fun X v => if_neg (fun q => z4 ⟨q.1, Or.inr q.2⟩), hs_na z2]
  · refine G_iconst dX7_open_8 ?_
    refine G_iretZ rfl dX7_open_9 ?_
    exact ⟨fun q => by omega, fun _ => rfl, FRr.rf⟩

theorem x_repeatFrom' (d : Nat) (τ : TT) (h : HT) (hT : TK τ) (o : OT) (F T : Int) (f t : Nat) (x : OX h o) (hf : f ≤ o.1.length) (hT9 : 1 ≤ t ∧ t ≤ 9) (eF : F = (f : Int)) (eT : T = (t : Int)) : S_ mX7_repeatFrom (d + 2) 0 0 [.inr (some 39), .inl F, .inl T] τ h (Zv τ fun h' => OX h' (o_rep (o.1.drop f) (t - 1) o) ∧ FRq h h') := by
  subst eF; subst eT; exact x_repeatFrom d τ h hT o f t x hf hT9
theorem x_undoFrom' (d : Nat) (τ : TT) (h : HT) (hT : TK τ) (o : OT) (F : Int) (f : Nat) (x : OX h o) (hf : f ≤ o.1.length) (ok : OKo o) (eF : F = (f : Int)) : S_ mX7_undoFrom d 0 0 [.inr (some 39), .inl F] τ h (Zv τ fun h' => OX h' (o_und o.1 f, o.2) ∧ FRq h h') := by
  subst eF; exact x_undoFrom d τ h hT o f x hf ok
theorem FRr_7 {h : HT} {v : Int} : FRr h (hs_ h 39 7 v) := fun a i _ _ _ z => if_neg fun q => z ⟨q.1, Or.inr q.2⟩
theorem x_closeR (d : Nat) (τ : TT) (h : HT) (hT : TK τ) (len : Nat) (hlen : h 39 3 = len ∧ len ≤ 80) (htx : ∀ k : Nat, k < 80 → 0 ≤ h 41 k ∧ h 41 k ≤ 255) (i : Nat) (hi : i < len) (stk : List Nat) (o : OT) (px : PX h stk o) (ah : Bool) : S_ mX7_close (d + 3) 0 0 [.inr (some 39), .inl (i : Int), .inl (if ah = true then 1 else 0)] τ h (Zi τ fun v h' => v = (p_cl (h 41) len i stk ah o).1 ∧ (0 < v → PX h' (p_cl (h 41) len i stk ah o).2.1 (p_cl (h 41) len i stk ah o).2.2) ∧ FRr h h') := by
  have p1 := px.1
  have p2 := px.2.1
  refine S_go (k := 1) (ls := [some (.inr (some 39)), some (.inl (i : Int)), some (.inl (if ah = true then 1 else 0)), none]) (by decide) rfl (Nat.le_of_ble_eq_true rfl) rfl ?_
  refine G_aload_n (i := 0) dX7_close_0 rfl rfl ?_
  refine G_getI (v := h 39 7) fX7_42 rfl dX7_close_1 (o39 hT) rfl ?_
  refine G_if_eq (tgt := 11) dX7_close_4 (by decide) (by omega) (fun c_1 => ?_) (fun c_1 => ?_)
  · refine G_iconst dX7_close_11 ?_
    refine G_iretZ rfl dX7_close_12 ?_
    have e : p_cl (h 41) len i stk ah o = (0, stk, o) := by unfold p_cl; rw [if_pos (by first | (left; exact List.length_eq_zero_iff.mp (by omega)) | (right; simpa using (by assumption : ¬ ah = true)))]
    rw [e]
    exact ⟨rfl, fun q => absurd q (by decide), FRr.rf⟩
  · refine G_iload_n (i := 2) dX7_close_7 rfl rfl ?_
    refine G_ifb_ne (tgt := 13) dX7_close_8 (by decide) (fun c_2 => ?_) (fun c_2 => ?_)
    · refine G_aload_n (i := 0) dX7_close_13 rfl rfl ?_
      refine G_iload_n (i := 1) dX7_close_14 rfl rfl ?_
      refine G_iconst dX7_close_15 ?_
      refine G_iadd dX7_close_16 ?_
      refine G_cVq (as := [.inl ((i : Int) + 1)]) qX7_67 (x_signAt (d + 2) τ h hT ((i : Int) + 1) (by omega) (by omega)) rfl rfl (Nat.le_of_ble_eq_true rfl) (o39 hT) dX7_close_17 ?_
      have sgv : (i + 1 < len ∧ x_sg h ((i : Int) + 1) = h 41 (i + 1)) ∨ (¬ i + 1 < len ∧ x_sg h ((i : Int) + 1) = -1) := by unfold x_sg; by_cases z : i + 1 < len; (rw [if_pos (by omega)]; exact Or.inl ⟨z, by congr 1⟩); (rw [if_neg (by omega)]; exact Or.inr ⟨z, rfl⟩)
      have tb2 : -1 ≤ x_sg h ((i : Int) + 1) ∧ x_sg h ((i : Int) + 1) ≤ 255 := by rcases sgv with ⟨z1, z2⟩ | ⟨z1, z2⟩; (have := htx (i + 1) (by omega); omega); omega
      refine G_istore_n (i := 3) (ls' := [some (.inr (some 39)), some (.inl (i : Int)), some (.inl (if ah = true then 1 else 0)), some (.inl (x_sg h ((i : Int) + 1)))]) dX7_close_20 rfl (by decide) rfl ?_
      refine G_iload_n (i := 3) dX7_close_21 rfl rfl ?_
      refine G_bipush dX7_close_22 (by decide) ?_
      refine G_icmp_eq (tgt := 41) dX7_close_24 (by decide) (by omega) (by decide) (fun c_3 => ?_) (fun c_3 => ?_)
      · refine G_aload_n (i := 0) dX7_close_41 rfl rfl ?_
        refine G_dup dX7_close_42 ?_
        refine G_getI (v := h 39 7) fX7_42 rfl dX7_close_43 (o39 hT) rfl ?_
        refine G_iconst dX7_close_46 ?_
        refine G_isub dX7_close_47 ?_
        refine G_putI fX7_42 dX7_close_48 (o39 hT) ?_
        obtain ⟨s0, stk2, rfl⟩ : ∃ s t, stk = s :: t := by rcases stk with _ | ⟨s, t⟩; exact absurd px.1 (by first | assumption | (intro q; simp at q; omega)); exact ⟨s, t, rfl⟩
        obtain ⟨pp, top, ts⟩ := px.pop
        have p1 := px.1
        simp only [List.length_cons] at p1
        have top2 : h 44 (h 39 7 - 1).toNat = (s0 : Int) := by rw [show (h 39 7 - 1).toNat = stk2.length by omega]; exact top
        refine G_iload_n (i := 3) dX7_close_51 rfl rfl ?_
        refine G_bipush dX7_close_52 (by decide) ?_
        refine G_icmp_ne (tgt := 73) dX7_close_54 (by decide) (by omega) (by decide) (fun q => absurd c_3 q) (fun _ => ?_)
        refine G_aload_n (i := 0) dX7_close_57 rfl rfl ?_
        refine G_aload_n (i := 0) dX7_close_58 rfl rfl ?_
        refine G_getR fX7_39 rfl dX7_close_59 (o39 hT) (r39_6 hT) ?_
        refine G_aload_n (i := 0) dX7_close_62 rfl rfl ?_
        refine G_getI (v := (h 39 7) - 1) fX7_42 rfl dX7_close_63 (o39 hT) (hs_eq) ?_
        refine G_iald (v := h 44 (((h 39 7) - 1).toNat)) dX7_close_66 (o44 hT) (by omega) (hs_na (by decide)) ?_
        refine G_cVv (as := [.inl (h 44 (((h 39 7) - 1).toNat))]) qX7_70 (x_undoFrom' (d + 2) τ (hs_ h 39 7 ((h 39 7) - 1)) hT o (h 44 (((h 39 7) - 1).toNat)) s0 pp.2.2.2.2.1 ts px.2.2.2.2.2 top2) rfl rfl (Nat.le_of_ble_eq_true rfl) (o39 hT) dX7_close_67 (fun g2 e2 => ?_)
        obtain ⟨om2, fr2⟩ := e2
        refine G_goto (tgt := 90) dX7_close_70 (by decide) ?_
        refine G_iconst dX7_close_90 ?_
        refine G_iretZ rfl dX7_close_91 ?_
        have e : p_cl (h 41) len i (s0 :: stk2) ah o = (2, stk2, (o_und o.1 s0, o.2)) := by unfold p_cl; rw [if_neg (by rintro (z | z); exact List.cons_ne_nil _ _ z; simp_all), if_pos (by omega)]; rfl
        rw [e]
        exact ⟨rfl, fun _ => pp.grow om2 px.2.2.2.2.2.und fr2 (by rw [o_und_len _ _ ts]; exact Nat.le_refl _), FRr_7.tr fr2.r⟩
      · refine G_iload_n (i := 3) dX7_close_27 rfl rfl ?_
        refine G_bipush dX7_close_28 (by decide) ?_
        refine G_icmp_lt (tgt := 39) dX7_close_30 (by decide) (by omega) (by decide) (fun c_4 => ?_) (fun c_4 => ?_)
        · refine G_iconst dX7_close_39 ?_
          refine G_iretZ rfl dX7_close_40 ?_
          have hs : stk ≠ [] := fun z => by rw [z] at p1; simp at p1; omega
          have e : p_cl (h 41) len i stk ah o = (-1, stk, o) := by unfold p_cl; rw [if_neg (by rintro (z | z); exact hs z; simp_all), if_neg (by omega), if_neg (by omega)]
          rw [e]
          exact ⟨rfl, fun q => absurd q (by decide), FRr.rf⟩
        · refine G_iload_n (i := 3) dX7_close_33 rfl rfl ?_
          refine G_bipush dX7_close_34 (by decide) ?_
          refine G_icmp_le (tgt := 41) dX7_close_36 (by decide) (by omega) (by decide) (fun c_5 => ?_) (fun c_5 => ?_)
          · refine G_aload_n (i := 0) dX7_close_41 rfl rfl ?_
            refine G_dup dX7_close_42 ?_
            refine G_getI (v := h 39 7) fX7_42 rfl dX7_close_43 (o39 hT) rfl ?_
            refine G_iconst dX7_close_46 ?_
            refine G_isub dX7_close_47 ?_
            refine G_putI fX7_42 dX7_close_48 (o39 hT) ?_
            obtain ⟨s0, stk2, rfl⟩ : ∃ s t, stk = s :: t := by rcases stk with _ | ⟨s, t⟩; exact absurd px.1 (by first | assumption | (intro q; simp at q; omega)); exact ⟨s, t, rfl⟩
            obtain ⟨pp, top, ts⟩ := px.pop
            have p1 := px.1
            simp only [List.length_cons] at p1
            have top2 : h 44 (h 39 7 - 1).toNat = (s0 : Int) := by rw [show (h 39 7 - 1).toNat = stk2.length by omega]; exact top
            refine G_iload_n (i := 3) dX7_close_51 rfl rfl ?_
            refine G_bipush dX7_close_52 (by decide) ?_
            refine G_icmp_ne (tgt := 73) dX7_close_54 (by decide) (by omega) (by decide) (fun _ => ?_) (fun q => absurd q c_3)
            refine G_aload_n (i := 0) dX7_close_73 rfl rfl ?_
            refine G_aload_n (i := 0) dX7_close_74 rfl rfl ?_
            refine G_getR fX7_39 rfl dX7_close_75 (o39 hT) (r39_6 hT) ?_
            refine G_aload_n (i := 0) dX7_close_78 rfl rfl ?_
            refine G_getI (v := (h 39 7) - 1) fX7_42 rfl dX7_close_79 (o39 hT) (hs_eq) ?_
            refine G_iald (v := h 44 (((h 39 7) - 1).toNat)) dX7_close_82 (o44 hT) (by omega) (hs_na (by decide)) ?_
            refine G_iload_n (i := 3) dX7_close_83 rfl rfl ?_
            refine G_bipush dX7_close_84 (by decide) ?_
            refine G_isub dX7_close_86 ?_
            refine G_cVv (as := [.inl (h 44 (((h 39 7) - 1).toNat)), .inl ((x_sg h ((i : Int) + 1)) - 48)]) qX7_73 (x_repeatFrom' d τ (hs_ h 39 7 ((h 39 7) - 1)) hT o (h 44 (((h 39 7) - 1).toNat)) ((x_sg h ((i : Int) + 1)) - 48) s0 (x_sg h ((i : Int) + 1) - 48).toNat pp.2.2.2.2.1 ts (by omega) top2 (by omega)) rfl rfl (Nat.le_of_ble_eq_true rfl) (o39 hT) dX7_close_87 (fun g2 e2 => ?_)
            obtain ⟨om2, fr2⟩ := e2
            refine G_iconst dX7_close_90 ?_
            refine G_iretZ rfl dX7_close_91 ?_
            have e : p_cl (h 41) len i (s0 :: stk2) ah o = (2, stk2, o_rep (o.1.drop s0) (h 41 (i + 1) - 49).toNat o) := by unfold p_cl; rw [if_neg (by rintro (z | z); exact List.cons_ne_nil _ _ z; simp_all), if_neg (by omega), if_pos (by omega)]; rfl
            rw [e]
            rw [show (x_sg h ((i : Int) + 1) - 48).toNat - 1 = (h 41 (i + 1) - 49).toNat by omega] at om2
            exact ⟨rfl, fun _ => pp.grow om2 (OKo.rep _ (fun s hs => px.2.2.2.2.2 s (List.mem_of_mem_drop hs)) _ px.2.2.2.2.2) fr2 (o_rep_len _ _ px.2.2.2.2.1.2.1).2, FRr_7.tr fr2.r⟩
          · refine G_iconst dX7_close_39 ?_
            refine G_iretZ rfl dX7_close_40 ?_
            have hs : stk ≠ [] := fun z => by rw [z] at p1; simp at p1; omega
            have e : p_cl (h 41) len i stk ah o = (-1, stk, o) := by unfold p_cl; rw [if_neg (by rintro (z | z); exact hs z; simp_all), if_neg (by omega), if_neg (by omega)]
            rw [e]
            exact ⟨rfl, fun q => absurd q (by decide), FRr.rf⟩
    · refine G_iconst dX7_close_11 ?_
      refine G_iretZ rfl dX7_close_12 ?_
      have e : p_cl (h 41) len i stk ah o = (0, stk, o) := by unfold p_cl; rw [if_pos (by first | (left; exact List.length_eq_zero_iff.mp (by omega)) | (right; simpa using (by assumption : ¬ ah = true)))]
      rw [e]
      exact ⟨rfl, fun q => absurd q (by decide), FRr.rf⟩

theorem x_single (d : Nat) (τ : TT) (h : HT) (hT : TK τ) (len : Nat) (hlen : h 39 3 = len ∧ len ≤ 80) (htx : ∀ k : Nat, k < 80 → 0 ≤ h 41 k ∧ h 41 k ≤ 255) (i : Nat) (hi : i < len) (stk : List Nat) (o : OT) (px : PX h stk o) (nf : Nat) (fig : Nat → List Int) (fgs : FGS τ h nf fig) (hok : ∀ f : Nat, f < nf → ∀ s ∈ fig f, f_okc s) : S_ mX7_single (d + 3) 0 0 [.inr (some 39), .inl (i : Int)] τ h (Zi τ fun v h' => v = (p_sg (h 41) len fig nf i o).1 ∧ (0 < v → PX h' stk (p_sg (h 41) len fig nf i o).2) ∧ FRr h h') := by
  have fg1 := fgs.1
  have fg2 := fgs.2.1
  refine S_go (k := 2) (ls := [some (.inr (some 39)), some (.inl (i : Int)), none, none]) (by decide) rfl (Nat.le_of_ble_eq_true rfl) rfl ?_
  refine G_aload_n (i := 0) dX7_single_0 rfl rfl ?_
  refine G_getR fX7_21 rfl dX7_single_1 (o39 hT) (r39_2 hT) ?_
  refine G_iload_n (i := 1) dX7_single_4 rfl rfl ?_
  refine G_iald (v := h 41 i) dX7_single_5 (o41 hT) (by omega) rfl ?_
  have tb := htx i (by omega)
  refine G_istore_n (i := 2) (ls' := [some (.inr (some 39)), some (.inl (i : Int)), some (.inl (h 41 i)), none]) dX7_single_6 rfl (by decide) rfl ?_
  refine G_iload_n (i := 2) dX7_single_7 rfl rfl ?_
  refine G_bipush dX7_single_8 (by decide) ?_
  refine G_icmp_lt (tgt := 66) dX7_single_10 (by decide) (by omega) (by decide) (fun c_1 => ?_) (fun c_1 => ?_)
  · refine G_iload_n (i := 2) dX7_single_66 rfl rfl ?_
    refine G_bipush dX7_single_67 (by decide) ?_
    refine G_icmp_eq (tgt := 78) dX7_single_69 (by decide) (by omega) (by decide) (fun c_2 => ?_) (fun c_2 => ?_)
    · refine G_aload_n (i := 0) dX7_single_78 rfl rfl ?_
      refine G_iload_n (i := 2) dX7_single_79 rfl rfl ?_
      refine G_bipush dX7_single_80 (by decide) ?_
      refine G_icmp_ne (tgt := 90) dX7_single_82 (by decide) (by omega) (by decide) (fun q => absurd c_2 q) (fun _ => ?_)
      refine G_bipush dX7_single_85 (by decide) ?_
      refine G_goto (tgt := 92) dX7_single_87 (by decide) ?_
      refine G_cVv (as := [.inl 100]) qX7_77 (x_put (d + 1) τ h hT o 100 px.2.2.2.2.1) rfl rfl (Nat.le_of_ble_eq_true rfl) (o39 hT) dX7_single_92 (fun g2 e2 => ?_)
      obtain ⟨om2, fr2⟩ := e2
      refine G_iconst dX7_single_95 ?_
      refine G_iretZ rfl dX7_single_96 ?_
      have e : p_sg (h 41) len fig nf i o = (1, o_ad o 100) := by unfold p_sg; rw [if_neg (by omega), if_pos (by omega)]
      rw [e]
      exact ⟨rfl, fun _ => px.grow om2 (px.2.2.2.2.2.ad (Or.inr (Or.inl rfl))) fr2 (o_ad_len px.2.2.2.2.1.2.1).2, fr2.r⟩
    · refine G_iload_n (i := 2) dX7_single_72 rfl rfl ?_
      refine G_bipush dX7_single_73 (by decide) ?_
      refine G_icmp_ne (tgt := 97) dX7_single_75 (by decide) (by omega) (by decide) (fun c_3 => ?_) (fun c_3 => ?_)
      · refine G_aload_n (i := 0) dX7_single_97 rfl rfl ?_
        refine G_iload_n (i := 2) dX7_single_98 rfl rfl ?_
        refine G_bipush dX7_single_99 (by decide) ?_
        refine G_isub dX7_single_101 ?_
        refine G_cVr (as := [.inl ((h 41 i) - 65)]) qX7_80 (x_figureAt (d + 2) τ h hT ((h 41 i) - 65) (by omega) (by have := fgs.1; have := fgs.2.1; omega)) rfl rfl (Nat.le_of_ble_eq_true rfl) (o39 hT) dX7_single_102 (fun x' h' e' => ?_)
        obtain ⟨rfl, eh'⟩ := e'
        rw [eh']
        clear eh'
        by_cases hfg : (0 ≤ ((h 41 i) - 65) ∧ ((h 41 i) - 65) < h 39 1)
        · rw [if_pos hfg]
          obtain ⟨b, L, fa1, fa2, fa3, fa4, fa5, fa6⟩ := fgs.2.2 ((h 41 i) - 65).toNat (by have := fgs.1; omega)
          rw [fa1]
          refine G_astore_n (i := 3) (ls' := [some (.inr (some 39)), some (.inl (i : Int)), some (.inl (h 41 i)), some (.inr (some b))]) dX7_single_105 rfl (by decide) rfl ?_
          refine G_aload_n (i := 3) dX7_single_106 rfl rfl ?_
          refine G_ifnonnullS (tgt := 112) dX7_single_107 (by decide) ?_
          refine G_aload_n (i := 0) dX7_single_112 rfl rfl ?_
          refine G_aload_n (i := 3) dX7_single_113 rfl rfl ?_
          refine G_cVv (as := [.inr (some b)]) qX7_84 (x_putAll d τ h hT b L fa3 fa2 fa5 fa4 o px.2.2.2.2.1) rfl rfl (Nat.le_of_ble_eq_true rfl) (o39 hT) dX7_single_114 (fun g2 e2 => ?_)
          obtain ⟨om2, fr2⟩ := e2
          rw [fa6] at om2
          refine G_iconst dX7_single_117 ?_
          refine G_iretZ rfl dX7_single_118 ?_
          have e : p_sg (h 41) len fig nf i o = (1, o_ads o (fig (h 41 i - 65).toNat)) := by unfold p_sg; rw [if_neg (by omega), if_neg (by omega), if_neg (by omega), if_pos (by omega)]
          rw [e]
          exact ⟨rfl, fun _ => px.grow om2 (px.2.2.2.2.2.ads _ (hok _ (by omega))) fr2 (o_ads_len _ px.2.2.2.2.1.2.1).2, fr2.r⟩
        · rw [if_neg hfg]
          refine G_astore_n (i := 3) (ls' := [some (.inr (some 39)), some (.inl (i : Int)), some (.inl (h 41 i)), some (.inr none)]) dX7_single_105 rfl (by decide) rfl ?_
          refine G_aload_n (i := 3) dX7_single_106 rfl rfl ?_
          refine G_ifnonnullN dX7_single_107 ?_
          refine G_iconst dX7_single_110 ?_
          refine G_iretZ rfl dX7_single_111 ?_
          have e : p_sg (h 41) len fig nf i o = (0, o) := by unfold p_sg; rw [if_neg (by omega), if_neg (by omega), if_neg (by omega), if_neg (by omega)]
          rw [e]
          exact ⟨rfl, fun q => absurd q (by decide), FRr.rf⟩
      · refine G_aload_n (i := 0) dX7_single_78 rfl rfl ?_
        refine G_iload_n (i := 2) dX7_single_79 rfl rfl ?_
        refine G_bipush dX7_single_80 (by decide) ?_
        refine G_icmp_ne (tgt := 90) dX7_single_82 (by decide) (by omega) (by decide) (fun _ => ?_) (fun q => absurd q c_2)
        refine G_bipush dX7_single_90 (by decide) ?_
        refine G_cVv (as := [.inl 101]) qX7_77 (x_put (d + 1) τ h hT o 101 px.2.2.2.2.1) rfl rfl (Nat.le_of_ble_eq_true rfl) (o39 hT) dX7_single_92 (fun g2 e2 => ?_)
        obtain ⟨om2, fr2⟩ := e2
        refine G_iconst dX7_single_95 ?_
        refine G_iretZ rfl dX7_single_96 ?_
        have e : p_sg (h 41) len fig nf i o = (1, o_ad o 101) := by unfold p_sg; rw [if_neg (by omega), if_neg (by omega), if_pos (by omega)]
        rw [e]
        exact ⟨rfl, fun _ => px.grow om2 (px.2.2.2.2.2.ad (Or.inr (Or.inr rfl))) fr2 (o_ad_len px.2.2.2.2.1.2.1).2, fr2.r⟩
  · refine G_iload_n (i := 2) dX7_single_13 rfl rfl ?_
    refine G_bipush dX7_single_14 (by decide) ?_
    refine G_icmp_gt (tgt := 66) dX7_single_16 (by decide) (by omega) (by decide) (fun c_4 => ?_) (fun c_4 => ?_)
    · refine G_iload_n (i := 2) dX7_single_66 rfl rfl ?_
      refine G_bipush dX7_single_67 (by decide) ?_
      refine G_icmp_eq (tgt := 78) dX7_single_69 (by decide) (by omega) (by decide) (fun c_5 => ?_) (fun c_5 => ?_)
      · refine G_aload_n (i := 0) dX7_single_78 rfl rfl ?_
        refine G_iload_n (i := 2) dX7_single_79 rfl rfl ?_
        refine G_bipush dX7_single_80 (by decide) ?_
        refine G_icmp_ne (tgt := 90) dX7_single_82 (by decide) (by omega) (by decide) (fun q => absurd c_5 q) (fun _ => ?_)
        refine G_bipush dX7_single_85 (by decide) ?_
        refine G_goto (tgt := 92) dX7_single_87 (by decide) ?_
        refine G_cVv (as := [.inl 100]) qX7_77 (x_put (d + 1) τ h hT o 100 px.2.2.2.2.1) rfl rfl (Nat.le_of_ble_eq_true rfl) (o39 hT) dX7_single_92 (fun g2 e2 => ?_)
        obtain ⟨om2, fr2⟩ := e2
        refine G_iconst dX7_single_95 ?_
        refine G_iretZ rfl dX7_single_96 ?_
        have e : p_sg (h 41) len fig nf i o = (1, o_ad o 100) := by unfold p_sg; rw [if_neg (by omega), if_pos (by omega)]
        rw [e]
        exact ⟨rfl, fun _ => px.grow om2 (px.2.2.2.2.2.ad (Or.inr (Or.inl rfl))) fr2 (o_ad_len px.2.2.2.2.1.2.1).2, fr2.r⟩
      · refine G_iload_n (i := 2) dX7_single_72 rfl rfl ?_
        refine G_bipush dX7_single_73 (by decide) ?_
        refine G_icmp_ne (tgt := 97) dX7_single_75 (by decide) (by omega) (by decide) (fun c_6 => ?_) (fun c_6 => ?_)
        · refine G_aload_n (i := 0) dX7_single_97 rfl rfl ?_
          refine G_iload_n (i := 2) dX7_single_98 rfl rfl ?_
          refine G_bipush dX7_single_99 (by decide) ?_
          refine G_isub dX7_single_101 ?_
          refine G_cVr (as := [.inl ((h 41 i) - 65)]) qX7_80 (x_figureAt (d + 2) τ h hT ((h 41 i) - 65) (by omega) (by have := fgs.1; have := fgs.2.1; omega)) rfl rfl (Nat.le_of_ble_eq_true rfl) (o39 hT) dX7_single_102 (fun x' h' e' => ?_)
          obtain ⟨rfl, eh'⟩ := e'
          rw [eh']
          clear eh'
          by_cases hfg : (0 ≤ ((h 41 i) - 65) ∧ ((h 41 i) - 65) < h 39 1)
          · rw [if_pos hfg]
            obtain ⟨b, L, fa1, fa2, fa3, fa4, fa5, fa6⟩ := fgs.2.2 ((h 41 i) - 65).toNat (by have := fgs.1; omega)
            rw [fa1]
            refine G_astore_n (i := 3) (ls' := [some (.inr (some 39)), some (.inl (i : Int)), some (.inl (h 41 i)), some (.inr (some b))]) dX7_single_105 rfl (by decide) rfl ?_
            refine G_aload_n (i := 3) dX7_single_106 rfl rfl ?_
            refine G_ifnonnullS (tgt := 112) dX7_single_107 (by decide) ?_
            refine G_aload_n (i := 0) dX7_single_112 rfl rfl ?_
            refine G_aload_n (i := 3) dX7_single_113 rfl rfl ?_
            refine G_cVv (as := [.inr (some b)]) qX7_84 (x_putAll d τ h hT b L fa3 fa2 fa5 fa4 o px.2.2.2.2.1) rfl rfl (Nat.le_of_ble_eq_true rfl) (o39 hT) dX7_single_114 (fun g2 e2 => ?_)
            obtain ⟨om2, fr2⟩ := e2
            rw [fa6] at om2
            refine G_iconst dX7_single_117 ?_
            refine G_iretZ rfl dX7_single_118 ?_
            have e : p_sg (h 41) len fig nf i o = (1, o_ads o (fig (h 41 i - 65).toNat)) := by unfold p_sg; rw [if_neg (by omega), if_neg (by omega), if_neg (by omega), if_pos (by omega)]
            rw [e]
            exact ⟨rfl, fun _ => px.grow om2 (px.2.2.2.2.2.ads _ (hok _ (by omega))) fr2 (o_ads_len _ px.2.2.2.2.1.2.1).2, fr2.r⟩
          · rw [if_neg hfg]
            refine G_astore_n (i := 3) (ls' := [some (.inr (some 39)), some (.inl (i : Int)), some (.inl (h 41 i)), some (.inr none)]) dX7_single_105 rfl (by decide) rfl ?_
            refine G_aload_n (i := 3) dX7_single_106 rfl rfl ?_
            refine G_ifnonnullN dX7_single_107 ?_
            refine G_iconst dX7_single_110 ?_
            refine G_iretZ rfl dX7_single_111 ?_
            have e : p_sg (h 41) len fig nf i o = (0, o) := by unfold p_sg; rw [if_neg (by omega), if_neg (by omega), if_neg (by omega), if_neg (by omega)]
            rw [e]
            exact ⟨rfl, fun q => absurd q (by decide), FRr.rf⟩
        · refine G_aload_n (i := 0) dX7_single_78 rfl rfl ?_
          refine G_iload_n (i := 2) dX7_single_79 rfl rfl ?_
          refine G_bipush dX7_single_80 (by decide) ?_
          refine G_icmp_ne (tgt := 90) dX7_single_82 (by decide) (by omega) (by decide) (fun _ => ?_) (fun q => absurd q c_5)
          refine G_bipush dX7_single_90 (by decide) ?_
          refine G_cVv (as := [.inl 101]) qX7_77 (x_put (d + 1) τ h hT o 101 px.2.2.2.2.1) rfl rfl (Nat.le_of_ble_eq_true rfl) (o39 hT) dX7_single_92 (fun g2 e2 => ?_)
          obtain ⟨om2, fr2⟩ := e2
          refine G_iconst dX7_single_95 ?_
          refine G_iretZ rfl dX7_single_96 ?_
          have e : p_sg (h 41) len fig nf i o = (1, o_ad o 101) := by unfold p_sg; rw [if_neg (by omega), if_neg (by omega), if_pos (by omega)]
          rw [e]
          exact ⟨rfl, fun _ => px.grow om2 (px.2.2.2.2.2.ad (Or.inr (Or.inr rfl))) fr2 (o_ad_len px.2.2.2.2.1.2.1).2, fr2.r⟩
    · refine G_aload_n (i := 0) dX7_single_19 rfl rfl ?_
      refine G_iload_n (i := 1) dX7_single_20 rfl rfl ?_
      refine G_iconst dX7_single_21 ?_
      refine G_iadd dX7_single_22 ?_
      refine G_cVq (as := [.inl ((i : Int) + 1)]) qX7_67 (x_signAt (d + 2) τ h hT ((i : Int) + 1) (by omega) (by omega)) rfl rfl (Nat.le_of_ble_eq_true rfl) (o39 hT) dX7_single_23 ?_
      have sgv : (i + 1 < len ∧ x_sg h ((i : Int) + 1) = h 41 (i + 1)) ∨ (¬ i + 1 < len ∧ x_sg h ((i : Int) + 1) = -1) := by unfold x_sg; by_cases z : i + 1 < len; (rw [if_pos (by omega)]; exact Or.inl ⟨z, by congr 1⟩); (rw [if_neg (by omega)]; exact Or.inr ⟨z, rfl⟩)
      have tb2 : -1 ≤ x_sg h ((i : Int) + 1) ∧ x_sg h ((i : Int) + 1) ≤ 255 := by rcases sgv with ⟨z1, z2⟩ | ⟨z1, z2⟩; (have := htx (i + 1) (by omega); omega); omega
      refine G_istore_n (i := 3) (ls' := [some (.inr (some 39)), some (.inl (i : Int)), some (.inl (h 41 i)), some (.inl (x_sg h ((i : Int) + 1)))]) dX7_single_26 rfl (by decide) rfl ?_
      refine G_iload_n (i := 3) dX7_single_27 rfl rfl ?_
      refine G_bipush dX7_single_28 (by decide) ?_
      refine G_icmp_eq (tgt := 41) dX7_single_30 (by decide) (by omega) (by decide) (fun c_7 => ?_) (fun c_7 => ?_)
      · refine G_aload_n (i := 0) dX7_single_41 rfl rfl ?_
        refine G_bipush dX7_single_42 (by decide) ?_
        refine G_iload_n (i := 2) dX7_single_44 rfl rfl ?_
        refine G_bipush dX7_single_45 (by decide) ?_
        refine G_isub dX7_single_47 ?_
        refine G_imul dX7_single_48 ?_
        refine G_iload_n (i := 3) dX7_single_49 rfl rfl ?_
        refine G_bipush dX7_single_50 (by decide) ?_
        refine G_icmp_ne (tgt := 59) dX7_single_52 (by decide) (by omega) (by decide) (fun q => absurd c_7 q) (fun _ => ?_)
        refine G_iconst dX7_single_55 ?_
        refine G_goto (tgt := 60) dX7_single_56 (by decide) ?_
        refine G_iadd dX7_single_60 ?_
        refine G_cVv (as := [.inl ((10 * ((h 41 i) - 48)) + 0)]) qX7_77 (x_put (d + 1) τ h hT o ((10 * ((h 41 i) - 48)) + 0) px.2.2.2.2.1) rfl rfl (Nat.le_of_ble_eq_true rfl) (o39 hT) dX7_single_61 (fun g2 e2 => ?_)
        obtain ⟨om2, fr2⟩ := e2
        refine G_iconst dX7_single_64 ?_
        refine G_iretZ rfl dX7_single_65 ?_
        have e : p_sg (h 41) len fig nf i o = (2, o_ad o (10 * (h 41 i - 48))) := by unfold p_sg; rw [if_pos (by omega), if_pos (by omega)]
        rw [e]
        rw [Int.add_zero] at om2
        exact ⟨rfl, fun _ => px.grow om2 (px.2.2.2.2.2.ad (ok_dig (by omega) (by omega))) fr2 (o_ad_len px.2.2.2.2.1.2.1).2, fr2.r⟩
      · refine G_iload_n (i := 3) dX7_single_33 rfl rfl ?_
        refine G_bipush dX7_single_34 (by decide) ?_
        refine G_icmp_eq (tgt := 41) dX7_single_36 (by decide) (by omega) (by decide) (fun c_8 => ?_) (fun c_8 => ?_)
        · refine G_aload_n (i := 0) dX7_single_41 rfl rfl ?_
          refine G_bipush dX7_single_42 (by decide) ?_
          refine G_iload_n (i := 2) dX7_single_44 rfl rfl ?_
          refine G_bipush dX7_single_45 (by decide) ?_
          refine G_isub dX7_single_47 ?_
          refine G_imul dX7_single_48 ?_
          refine G_iload_n (i := 3) dX7_single_49 rfl rfl ?_
          refine G_bipush dX7_single_50 (by decide) ?_
          refine G_icmp_ne (tgt := 59) dX7_single_52 (by decide) (by omega) (by decide) (fun _ => ?_) (fun q => absurd q c_7)
          refine G_iconst dX7_single_59 ?_
          refine G_iadd dX7_single_60 ?_
          refine G_cVv (as := [.inl ((10 * ((h 41 i) - 48)) + 1)]) qX7_77 (x_put (d + 1) τ h hT o ((10 * ((h 41 i) - 48)) + 1) px.2.2.2.2.1) rfl rfl (Nat.le_of_ble_eq_true rfl) (o39 hT) dX7_single_61 (fun g2 e2 => ?_)
          obtain ⟨om2, fr2⟩ := e2
          refine G_iconst dX7_single_64 ?_
          refine G_iretZ rfl dX7_single_65 ?_
          have e : p_sg (h 41) len fig nf i o = (2, o_ad o (10 * (h 41 i - 48) + 1)) := by unfold p_sg; rw [if_pos (by omega), if_neg (by omega), if_pos (by omega)]
          rw [e]
          exact ⟨rfl, fun _ => px.grow om2 (px.2.2.2.2.2.ad (ok_dig1 (by omega) (by omega))) fr2 (o_ad_len px.2.2.2.2.1.2.1).2, fr2.r⟩
        · refine G_iconst dX7_single_39 ?_
          refine G_iretZ rfl dX7_single_40 ?_
          have e : p_sg (h 41) len fig nf i o = (-1, o) := by unfold p_sg; rw [if_pos (by omega), if_neg (by omega), if_neg (by omega)]
          rw [e]
          exact ⟨rfl, fun q => absurd q (by decide), FRr.rf⟩

def p_rs (h : HT) (r : Int × OT) (v : Int) (h' : HT) : Prop := (r.1 ≠ -1 → v = r.1) ∧ (r.1 = -1 → v = -1 ∧ OX h' r.2) ∧ FRr h h'
theorem p_sg_r {tx : Nat → Int} {len nf i : Nat} {fig : Nat → List Int} {o : OT} : -1 ≤ (p_sg tx len fig nf i o).1 ∧ (p_sg tx len fig nf i o).1 ≤ 2 ∧ (2 ≤ (p_sg tx len fig nf i o).1 → i + 1 < len) := by
  unfold p_sg
  split
  · split
    · rename_i q; exact ⟨(show (-1 : Int) ≤ 2 by decide), Int.le_refl _, fun _ => q.1⟩
    · split
      · rename_i q; exact ⟨(show (-1 : Int) ≤ 2 by decide), Int.le_refl _, fun _ => q.1⟩
      · exact ⟨Int.le_refl _, (show (-1 : Int) ≤ 2 by decide), fun q => absurd q (show ¬ (2 : Int) ≤ -1 by decide)⟩
  · split
    · exact ⟨(show (-1 : Int) ≤ 1 by decide), (show (1 : Int) ≤ 2 by decide), fun q => absurd q (show ¬ (2 : Int) ≤ 1 by decide)⟩
    · split
      · exact ⟨(show (-1 : Int) ≤ 1 by decide), (show (1 : Int) ≤ 2 by decide), fun q => absurd q (show ¬ (2 : Int) ≤ 1 by decide)⟩
      · split
        · exact ⟨(show (-1 : Int) ≤ 1 by decide), (show (1 : Int) ≤ 2 by decide), fun q => absurd q (show ¬ (2 : Int) ≤ 1 by decide)⟩
        · exact ⟨(show (-1 : Int) ≤ 0 by decide), (show (0 : Int) ≤ 2 by decide), fun q => absurd q (show ¬ (2 : Int) ≤ 0 by decide)⟩
theorem p_cl_r {tx : Nat → Int} {len i : Nat} {stk : List Nat} {ah : Bool} {o : OT} : -1 ≤ (p_cl tx len i stk ah o).1 ∧ (p_cl tx len i stk ah o).1 ≤ 2 ∧ (1 ≤ (p_cl tx len i stk ah o).1 → i + 1 < len) := by
  unfold p_cl
  split
  · exact ⟨(show (-1 : Int) ≤ 0 by decide), (show (0 : Int) ≤ 2 by decide), fun q => absurd q (show ¬ (1 : Int) ≤ 0 by decide)⟩
  · split
    · rename_i q; exact ⟨(show (-1 : Int) ≤ 2 by decide), Int.le_refl _, fun _ => q.1⟩
    · split
      · rename_i q; exact ⟨(show (-1 : Int) ≤ 2 by decide), Int.le_refl _, fun _ => q.1⟩
      · exact ⟨Int.le_refl _, (show (-1 : Int) ≤ 2 by decide), fun q => absurd q (show ¬ (1 : Int) ≤ -1 by decide)⟩
theorem x_parse_L (d : Nat) (τ : TT) (h : HT) (hT : TK τ) (len : Nat) (hlen : h 39 3 = len ∧ len ≤ 80) (htx : ∀ k : Nat, k < 80 → 0 ≤ h 41 k ∧ h 41 k ≤ 255) (nf : Nat) (fig : Nat → List Int) (fgs : FGS τ h nf fig) (hok : ∀ f : Nat, f < nf → ∀ s ∈ fig f, f_okc s) : ∀ (n_ : Nat) (g : HT) (i : Nat) (stk : List Nat) (ah : Bool) (o : OT), len - i < n_ → PX g stk o → FRr h g → i ≤ len → G_ mX7_parse (d + 4) 0 0 21 [some (.inr (some 39)), some (.inl (if ah = true then 1 else 0)), some (.inl (i : Int)), none, none, none] [] τ g (Zi τ fun v h' => p_rs h (p_run (h 41) len fig nf (len + 1 - i) i stk ah o) v h') := by
  intro n_
  induction n_ with
  | zero => intro g i stk ah o hm_; exact absurd hm_ (Nat.not_lt_zero _)
  | succ n_ ih =>
    intro g i stk ah o hm_ px fr hi
    have e3_ : g 39 3 = h 39 3 := fr 39 3 (by decide) (by decide) (by decide) (by decide)
    have et : ∀ j, g 41 j = h 41 j := fun j => fr 41 j (by decide) (by decide) (by omega) (by omega)
    have etf : g 41 = h 41 := funext et
    have p1 := px.1
    have p2 := px.2.1
    refine G_iload_n (i := 2) dX7_parse_21 rfl rfl ?_
    refine G_aload_n (i := 0) dX7_parse_22 rfl rfl ?_
    refine G_getI (v := (len : Int)) fX7_25 rfl dX7_parse_23 (o39 hT) ((e3_.trans hlen.1)) ?_
    refine G_icmp_ge (tgt := 112) dX7_parse_26 (by decide) (by omega) (by omega) (fun c_1 => ?_) (fun c_1 => ?_)
    · refine G_iload_n (i := 1) dX7_parse_112 rfl rfl ?_
      refine G_ifb_eq (tgt := 127) dX7_parse_113 (by decide) (fun c_2 => ?_) (fun c_2 => ?_)
      · refine G_aload_n (i := 0) dX7_parse_127 rfl rfl ?_
        refine G_getI (v := (len : Int)) fX7_25 rfl dX7_parse_128 (o39 hT) ((e3_.trans hlen.1)) ?_
        refine G_iretZ rfl dX7_parse_131 ?_
        have eF : len + 1 - i = (len - i) + 1 := by omega
        show p_rs h (p_run _ _ _ _ (len + 1 - i) _ _ _ _) _ _
        rw [eF]
        rw [p_end0 (by omega) (by rintro ⟨z1, z2⟩; first | (subst z1; simp only [List.length_nil] at p1; omega) | exact absurd z2 (by assumption))]
        exact ⟨fun _ => by show _ = (len : Int); omega, fun q => by have : (len : Int) = -1 := q; omega, fr⟩
      · refine G_aload_n (i := 0) dX7_parse_116 rfl rfl ?_
        refine G_getI (v := g 39 7) fX7_42 rfl dX7_parse_117 (o39 hT) rfl ?_
        refine G_if_ne (tgt := 127) dX7_parse_120 (by decide) (by omega) (fun c_3 => ?_) (fun c_3 => ?_)
        · refine G_aload_n (i := 0) dX7_parse_127 rfl rfl ?_
          refine G_getI (v := (len : Int)) fX7_25 rfl dX7_parse_128 (o39 hT) ((e3_.trans hlen.1)) ?_
          refine G_iretZ rfl dX7_parse_131 ?_
          have eF : len + 1 - i = (len - i) + 1 := by omega
          show p_rs h (p_run _ _ _ _ (len + 1 - i) _ _ _ _) _ _
          rw [eF]
          rw [p_end0 (by omega) (by rintro ⟨z1, z2⟩; first | (subst z1; simp only [List.length_nil] at p1; omega) | exact absurd z2 (by assumption))]
          exact ⟨fun _ => by show _ = (len : Int); omega, fun q => by have : (len : Int) = -1 := q; omega, fr⟩
        · refine G_iconst dX7_parse_123 ?_
          refine G_goto (tgt := 131) dX7_parse_124 (by decide) ?_
          refine G_iretZ rfl dX7_parse_131 ?_
          have eF : len + 1 - i = (len - i) + 1 := by omega
          show p_rs h (p_run _ _ _ _ (len + 1 - i) _ _ _ _) _ _
          rw [eF]
          have hs0 : stk = [] := List.length_eq_zero_iff.mp (by omega)
          rw [p_end1 (by omega) ⟨hs0, by assumption⟩]
          exact ⟨fun q => absurd rfl q, fun _ => ⟨rfl, px.2.2.2.2.1⟩, fr⟩
    · refine G_aload_n (i := 0) dX7_parse_29 rfl rfl ?_
      refine G_getR fX7_21 rfl dX7_parse_30 (o39 hT) (r39_2 hT) ?_
      refine G_iload_n (i := 2) dX7_parse_33 rfl rfl ?_
      refine G_iald (v := h 41 i) dX7_parse_34 (o41 hT) (by omega) (et i) ?_
      have tb := htx i (by omega)
      refine G_istore_n (i := 3) (ls' := [some (.inr (some 39)), some (.inl (if ah = true then 1 else 0)), some (.inl (i : Int)), some (.inl (h 41 i)), none, none]) dX7_parse_35 rfl (by decide) rfl ?_
      refine G_iload_n (i := 3) dX7_parse_36 rfl rfl ?_
      refine G_bipush dX7_parse_37 (by decide) ?_
      refine G_icmp_ne (tgt := 46) dX7_parse_39 (by decide) (by omega) (by decide) (fun c_4 => ?_) (fun c_4 => ?_)
      · refine G_iconst dX7_parse_46 ?_
        refine G_istore (ls' := [some (.inr (some 39)), some (.inl (if ah = true then 1 else 0)), some (.inl (i : Int)), some (.inl (h 41 i)), some (.inl 0), none]) dX7_parse_47 (by decide) rfl ?_
        refine G_iload dX7_parse_49 rfl ?_
        refine G_if_eq (tgt := 61) dX7_parse_51 (by decide) (by decide) (fun _ => ?_) (fun q => absurd q (by decide))
        refine G_iload_n (i := 3) dX7_parse_61 rfl rfl ?_
        refine G_bipush dX7_parse_62 (by decide) ?_
        refine G_icmp_ne (tgt := 76) dX7_parse_64 (by decide) (by omega) (by decide) (fun c_5 => ?_) (fun c_5 => ?_)
        · refine G_aload_n (i := 0) dX7_parse_76 rfl rfl ?_
          refine G_iload_n (i := 2) dX7_parse_77 rfl rfl ?_
          refine G_cVi (as := [.inl (i : Int)]) qX7_60 (x_single d τ g hT len ⟨e3_.trans hlen.1, hlen.2⟩ (fun k hk => by rw [et]; exact htx k hk) i (by omega) stk o px nf fig (fgs.r fr) hok) rfl rfl (Nat.le_of_ble_eq_true rfl) (o39 hT) dX7_parse_78 (fun v1 g2 e2 => ?_)
          rw [etf] at e2
          obtain ⟨e3, e4, fr2⟩ := e2
          have hv1 := p_sg_r (tx := h 41) (len := len) (fig := fig) (nf := nf) (i := i) (o := o)
          rw [← e3] at hv1
          refine G_istore (ls' := [some (.inr (some 39)), some (.inl (if ah = true then 1 else 0)), some (.inl (i : Int)), some (.inl (h 41 i)), some (.inl 0), some (.inl v1)]) dX7_parse_81 (by decide) rfl ?_
          refine G_iload dX7_parse_83 rfl ?_
          refine G_if_gt (tgt := 93) dX7_parse_85 (by decide) (by omega) (fun c_6 => ?_) (fun c_6 => ?_)
          · refine G_iload dX7_parse_93 rfl ?_
            refine G_if_ne (tgt := 102) dX7_parse_95 (by decide) (by decide) (fun q => absurd q (by decide)) (fun _ => ?_)
            refine G_iconst dX7_parse_98 ?_
            refine G_goto (tgt := 103) dX7_parse_99 (by decide) ?_
            refine G_istore_n (i := 1) (ls' := [some (.inr (some 39)), some (.inl 1), some (.inl (i : Int)), some (.inl (h 41 i)), some (.inl 0), some (.inl v1)]) dX7_parse_103 rfl (by decide) rfl ?_
            refine G_iload_n (i := 2) dX7_parse_104 rfl rfl ?_
            refine G_iload dX7_parse_105 rfl ?_
            refine G_iadd dX7_parse_107 ?_
            refine G_istore_n (i := 2) (ls' := [some (.inr (some 39)), some (.inl 1), some (.inl ((i : Int) + v1)), some (.inl (h 41 i)), some (.inl 0), some (.inl v1)]) dX7_parse_108 rfl (by decide) rfl ?_
            refine G_goto (tgt := 21) dX7_parse_109 (by decide) ?_
            refine G_lsub (ls' := [some (.inr (some 39)), some (.inl 1), some (.inl ((i : Int) + v1)), none, none, none]) (LS_same (LS_same (LS_same (LS_none (LS_none (LS_none LS_nil)))))) ?_
            obtain ⟨V, hV⟩ : ∃ V : Nat, v1 = (V : Int) := ⟨v1.toNat, by omega⟩
            subst hV
            have k2 := e4 (by omega)
            refine G_mono ?_ (ih g2 (i + V) _ true _ (by omega) k2 (fr.tr fr2) (by omega))
            rintro r τ' h' ⟨q1, v, q2, q3, q4, q5⟩
            refine ⟨q1, v, q2, ?_⟩
            have eF : len + 1 - i = (len - i) + 1 := by omega
            rw [eF, p_run_sg (by omega) (by omega) (by omega) fgs.2.1, if_pos (by omega), ← e3, Int.toNat_natCast, p_fuel _ (len + 1 - (i + V)) _ _ _ _ (by omega) (by omega)]
            exact ⟨q3, q4, q5⟩
          · refine G_iload_n (i := 2) dX7_parse_88 rfl rfl ?_
            refine G_iload dX7_parse_89 rfl ?_
            refine G_isub dX7_parse_91 ?_
            refine G_iretZ rfl dX7_parse_92 ?_
            have eF : len + 1 - i = (len - i) + 1 := by omega
            show p_rs h (p_run _ _ _ _ (len + 1 - i) _ _ _ _) _ _
            rw [eF]
            rw [p_run_sg (by omega) (by omega) (by omega) fgs.2.1, if_neg (by omega), ← e3]
            exact ⟨fun _ => rfl, fun q => by have : (i : Int) - v1 = -1 := q; omega, fr.tr fr2⟩
        · refine G_aload_n (i := 0) dX7_parse_67 rfl rfl ?_
          refine G_iload_n (i := 2) dX7_parse_68 rfl rfl ?_
          refine G_iload_n (i := 1) dX7_parse_69 rfl rfl ?_
          refine G_cVi (as := [.inl (i : Int), .inl (if ah = true then 1 else 0)]) qX7_56 (x_closeR d τ g hT len ⟨e3_.trans hlen.1, hlen.2⟩ (fun k hk => by rw [et]; exact htx k hk) i (by omega) stk o px ah) rfl rfl (Nat.le_of_ble_eq_true rfl) (o39 hT) dX7_parse_70 (fun v1 g2 e2 => ?_)
          rw [etf] at e2
          obtain ⟨e3, e4, fr2⟩ := e2
          have hv1 := p_cl_r (tx := h 41) (len := len) (i := i) (stk := stk) (ah := ah) (o := o)
          rw [← e3] at hv1
          refine G_goto (tgt := 81) dX7_parse_73 (by decide) ?_
          refine G_istore (ls' := [some (.inr (some 39)), some (.inl (if ah = true then 1 else 0)), some (.inl (i : Int)), some (.inl (h 41 i)), some (.inl 0), some (.inl v1)]) dX7_parse_81 (by decide) rfl ?_
          refine G_iload dX7_parse_83 rfl ?_
          refine G_if_gt (tgt := 93) dX7_parse_85 (by decide) (by omega) (fun c_7 => ?_) (fun c_7 => ?_)
          · refine G_iload dX7_parse_93 rfl ?_
            refine G_if_ne (tgt := 102) dX7_parse_95 (by decide) (by decide) (fun q => absurd q (by decide)) (fun _ => ?_)
            refine G_iconst dX7_parse_98 ?_
            refine G_goto (tgt := 103) dX7_parse_99 (by decide) ?_
            refine G_istore_n (i := 1) (ls' := [some (.inr (some 39)), some (.inl 1), some (.inl (i : Int)), some (.inl (h 41 i)), some (.inl 0), some (.inl v1)]) dX7_parse_103 rfl (by decide) rfl ?_
            refine G_iload_n (i := 2) dX7_parse_104 rfl rfl ?_
            refine G_iload dX7_parse_105 rfl ?_
            refine G_iadd dX7_parse_107 ?_
            refine G_istore_n (i := 2) (ls' := [some (.inr (some 39)), some (.inl 1), some (.inl ((i : Int) + v1)), some (.inl (h 41 i)), some (.inl 0), some (.inl v1)]) dX7_parse_108 rfl (by decide) rfl ?_
            refine G_goto (tgt := 21) dX7_parse_109 (by decide) ?_
            refine G_lsub (ls' := [some (.inr (some 39)), some (.inl 1), some (.inl ((i : Int) + v1)), none, none, none]) (LS_same (LS_same (LS_same (LS_none (LS_none (LS_none LS_nil)))))) ?_
            obtain ⟨V, hV⟩ : ∃ V : Nat, v1 = (V : Int) := ⟨v1.toNat, by omega⟩
            subst hV
            have k2 := e4 (by omega)
            refine G_mono ?_ (ih g2 (i + V) _ true _ (by omega) k2 (fr.tr fr2) (by omega))
            rintro r τ' h' ⟨q1, v, q2, q3, q4, q5⟩
            refine ⟨q1, v, q2, ?_⟩
            have eF : len + 1 - i = (len - i) + 1 := by omega
            rw [eF, p_run_cl (by omega) (by omega), if_pos (by omega), ← e3, Int.toNat_natCast, p_fuel _ (len + 1 - (i + V)) _ _ _ _ (by omega) (by omega)]
            exact ⟨q3, q4, q5⟩
          · refine G_iload_n (i := 2) dX7_parse_88 rfl rfl ?_
            refine G_iload dX7_parse_89 rfl ?_
            refine G_isub dX7_parse_91 ?_
            refine G_iretZ rfl dX7_parse_92 ?_
            have eF : len + 1 - i = (len - i) + 1 := by omega
            show p_rs h (p_run _ _ _ _ (len + 1 - i) _ _ _ _) _ _
            rw [eF]
            rw [p_run_cl (by omega) (by omega), if_neg (by omega), ← e3]
            exact ⟨fun _ => rfl, fun q => by have : (i : Int) - v1 = -1 := q; omega, fr.tr fr2⟩
      · refine G_iconst dX7_parse_42 ?_
        refine G_goto (tgt := 47) dX7_parse_43 (by decide) ?_
        refine G_istore (ls' := [some (.inr (some 39)), some (.inl (if ah = true then 1 else 0)), some (.inl (i : Int)), some (.inl (h 41 i)), some (.inl 1), none]) dX7_parse_47 (by decide) rfl ?_
        refine G_iload dX7_parse_49 rfl ?_
        refine G_if_eq (tgt := 61) dX7_parse_51 (by decide) (by decide) (fun q => absurd q (by decide)) (fun _ => ?_)
        refine G_aload_n (i := 0) dX7_parse_54 rfl rfl ?_
        refine G_cVi (as := []) qX7_52 (x_openR (d + 3) τ g hT stk o px) rfl rfl (Nat.le_of_ble_eq_true rfl) (o39 hT) dX7_parse_55 (fun v1 g2 e2 => ?_)
        obtain ⟨e3, e4, fr2⟩ := e2
        have hv1 : v1 = 0 ∨ v1 = 1 := by by_cases z : stk.length < 4; (exact Or.inr (e3 z).1); (exact Or.inl (e4 z))
        refine G_goto (tgt := 81) dX7_parse_58 (by decide) ?_
        refine G_istore (ls' := [some (.inr (some 39)), some (.inl (if ah = true then 1 else 0)), some (.inl (i : Int)), some (.inl (h 41 i)), some (.inl 1), some (.inl v1)]) dX7_parse_81 (by decide) rfl ?_
        refine G_iload dX7_parse_83 rfl ?_
        refine G_if_gt (tgt := 93) dX7_parse_85 (by decide) (by omega) (fun c_8 => ?_) (fun c_8 => ?_)
        · refine G_iload dX7_parse_93 rfl ?_
          refine G_if_ne (tgt := 102) dX7_parse_95 (by decide) (by decide) (fun _ => ?_) (fun q => absurd q (by decide))
          refine G_iconst dX7_parse_102 ?_
          refine G_istore_n (i := 1) (ls' := [some (.inr (some 39)), some (.inl 0), some (.inl (i : Int)), some (.inl (h 41 i)), some (.inl 1), some (.inl v1)]) dX7_parse_103 rfl (by decide) rfl ?_
          refine G_iload_n (i := 2) dX7_parse_104 rfl rfl ?_
          refine G_iload dX7_parse_105 rfl ?_
          refine G_iadd dX7_parse_107 ?_
          refine G_istore_n (i := 2) (ls' := [some (.inr (some 39)), some (.inl 0), some (.inl ((i : Int) + v1)), some (.inl (h 41 i)), some (.inl 1), some (.inl v1)]) dX7_parse_108 rfl (by decide) rfl ?_
          refine G_goto (tgt := 21) dX7_parse_109 (by decide) ?_
          refine G_lsub (ls' := [some (.inr (some 39)), some (.inl 0), some (.inl ((i : Int) + v1)), none, none, none]) (LS_same (LS_same (LS_same (LS_none (LS_none (LS_none LS_nil)))))) ?_
          obtain ⟨k1, k2⟩ := e3 (by omega)
          subst k1
          refine G_mono ?_ (ih g2 (i + 1) (o.1.length :: stk) false o (by omega) k2 (fr.tr fr2) (by omega))
          rintro r τ' h' ⟨q1, v, q2, q3, q4, q5⟩
          refine ⟨q1, v, q2, ?_⟩
          have eF : len + 1 - i = (len - i) + 1 := by omega
          rw [eF, p_op (by omega) (by omega), p_fuel _ (len + 1 - (i + 1)) _ _ _ _ (by omega) (by omega)]
          exact ⟨q3, q4, q5⟩
        · refine G_iload_n (i := 2) dX7_parse_88 rfl rfl ?_
          refine G_iload dX7_parse_89 rfl ?_
          refine G_isub dX7_parse_91 ?_
          refine G_iretZ rfl dX7_parse_92 ?_
          have eF : len + 1 - i = (len - i) + 1 := by omega
          show p_rs h (p_run _ _ _ _ (len + 1 - i) _ _ _ _) _ _
          rw [eF]
          have e4_ : ¬ stk.length < 4 := fun z => by have := (e3 z).1; omega
          rw [p_bad (by omega) (by omega) (by omega) (by omega) (by omega) (by omega)]
          exact ⟨fun _ => by show (i : Int) - v1 = (i : Int); omega, fun q => by have : (i : Int) = -1 := q; omega, fr.tr fr2⟩

theorem x_parse (d : Nat) (τ : TT) (h : HT) (hT : TK τ) (len : Nat) (hlen : h 39 3 = len ∧ len ≤ 80) (htx : ∀ k : Nat, k < 80 → 0 ≤ h 41 k ∧ h 41 k ≤ 255) (nf : Nat) (fig : Nat → List Int) (fgs : FGS τ h nf fig) (hok : ∀ f : Nat, f < nf → ∀ s ∈ fig f, f_okc s) : S_ mX7_parse (d + 4) 0 0 [.inr (some 39)] τ h (Zi τ fun v h' => p_rs h (p_run (h 41) len fig nf (len + 1) 0 [] false ([], false)) v h') := by
  refine S_go (k := 5) (ls := [some (.inr (some 39)), none, none, none, none, none]) (by decide) rfl (Nat.le_of_ble_eq_true rfl) rfl ?_
  refine G_aload_n (i := 0) dX7_parse_0 rfl rfl ?_
  refine G_getR fX7_31 rfl dX7_parse_1 (o39 hT) (r39_4 hT) ?_
  refine G_cVv (as := []) qX7_49 (x_clear (d + 3) τ h 42 300 (st42 hT)) rfl rfl (Nat.le_of_ble_eq_true rfl) (o42 hT) dX7_parse_4 (fun h' e' => ?_)
  subst e'
  refine G_aload_n (i := 0) dX7_parse_7 rfl rfl ?_
  refine G_iconst dX7_parse_8 ?_
  refine G_putZ fX7_35 (by decide) dX7_parse_9 (o39 hT) ?_
  refine G_aload_n (i := 0) dX7_parse_12 rfl rfl ?_
  refine G_iconst dX7_parse_13 ?_
  refine G_putI fX7_42 dX7_parse_14 (o39 hT) ?_
  refine G_iconst dX7_parse_17 ?_
  refine G_istore_n (i := 1) (ls' := [some (.inr (some 39)), some (.inl 0), none, none, none, none]) dX7_parse_18 rfl (by decide) rfl ?_
  refine G_iconst dX7_parse_19 ?_
  refine G_istore_n (i := 2) (ls' := [some (.inr (some 39)), some (.inl 0), some (.inl 0), none, none, none]) dX7_parse_20 rfl (by decide) rfl ?_
  have px0 : PX (hs_ (hs_ (hs_ h 42 1 0) 39 5 0) 39 7 0) [] ([], false) := ⟨by rw [hs_eq]; rfl, Nat.zero_le _, fun j hj => absurd hj (Nat.not_lt_zero _), fun s hs => absurd hs List.not_mem_nil, ⟨by simp [hs_], Nat.zero_le _, fun i hi => absurd hi (Nat.not_lt_zero _), by simp [hs_]⟩, fun s hs => absurd hs List.not_mem_nil⟩
  have fr0 : FRr h (hs_ (hs_ (hs_ h 42 1 0) 39 5 0) 39 7 0) := fun a i z1 z2 z3 z4 => by unfold hs_; rw [if_neg (fun q => z4 ⟨q.1, Or.inr q.2⟩), if_neg (fun q => z4 ⟨q.1, Or.inl q.2⟩), if_neg z3]
  exact x_parse_L d τ h hT len hlen htx nf fig fgs hok _ _ 0 [] false ([], false) (Nat.lt_succ_self _) px0 fr0 (Nat.zero_le _)

