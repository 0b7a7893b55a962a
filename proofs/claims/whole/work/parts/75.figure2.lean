/-! operations: figure -/
theorem PR_41 {τ : TT} {h : HT} (x : MI h) (y : XR τ h) (n i : Nat) (stk : List Nat) (ah : Bool) (o : OT) : p_run (h 41) (h 81 27).toNat (figL h) (h 81 26).toNat n i stk ah o = PR h n i stk ah o := by
  have f10 := x.f_
  have e80 := x.e_
  refine p_tx (by omega) (fun k hk => ?_) n i stk ah o
  have t := y.tx_.2.2 k (by omega)
  have r := x.tx_ k (by omega)
  omega
theorem PR_good {h : HT} (x : MI h) (n : Nat) : (-1 ≤ (PR h n 0 [] false ([], false)).1 ∧ (PR h n 0 [] false ([], false)).1 ≤ (h 81 27).toNat) ∧ ((PR h n 0 [] false ([], false)).1 = -1 → OKo (PR h n 0 [] false ([], false)).2 ∧ 0 < (PR h n 0 [] false ([], false)).2.1.length) := by
  refine p_good (fun f hf => ⟨fun q => ?_, figL_ok x (by omega)⟩) n 0 [] false ([], false) (fun s hs => by cases hs) (Nat.zero_le _) (fun q => by cases q)
  have l := figL_len (h := h) (f := f)
  rw [q] at l
  have := x.ma_ f (by omega)
  have l0 : ([] : List Int).length = 0 := rfl
  omega
theorem x_figureM (d : Nat) (τ : TT) (h : HT) (hT : TK τ) (x : MI h) (y : XR τ h) (r0 : Int × OT) (hr : PR h ((h 81 27).toNat + 1) 0 [] false ([], false) = r0) : S_ mX11_figure (d + 5) 2 302 [.inr (some 0)] τ h (fun r_ τ1 h1 => (h 81 26 = 10 → r_ = some (.inl (-4)) ∧ τ1 = τ ∧ h1 = h) ∧ (h 81 26 ≠ 10 → ∃ g : HT, FRr h g ∧ (r0.1 ≠ -1 → r_ = some (.inl (-10 - r0.1)) ∧ τ1 = τ ∧ h1 = (hs_ g 39 3 0)) ∧ (r0.1 = -1 → r0.2.2 = true → r_ = some (.inl (-2)) ∧ τ1 = τ ∧ h1 = (hs_ g 39 3 0)) ∧ (r0.1 = -1 → r0.2.2 ≠ true → OX g r0.2 ∧ r_ = some (.inl (h 39 1)) ∧ τ1 = tKp τ (hs_ g 39 3 0) r0.2.1.length ∧ h1 = hKp τ (hs_ g 39 3 0) r0.2.1.length))) := by
  have n9 := x.n9
  have d1 := x.d1
  have n_ := x.n_
  have fn := y.fn_
  have da := y.da_
  have cn := y.cn_
  have r_r_ := x.r_
  have s_s_ := x.s_
  have dc := y.dc_
  have pc := y.pc_
  have pp := x.p_
  have fgc := y.fg_.1
  have f10 := x.f_
  have ra := y.ra_
  have a100 := x.a_
  have pic := y.pi_
  have t40 := x.t_
  have txx := y.tx_
  have e80 := x.e_
  have T0 := hT.1
  have sz := y.sz_
  have pg := PR_good x ((h 81 27).toNat + 1)
  rw [hr] at pg
  refine S_go (k := 1) (ls := [some (.inr (some 0)), none]) (by decide) rfl (Nat.le_of_ble_eq_true rfl) rfl ?_
  refine G_aload_n (i := 0) dX11_figure_0 rfl rfl ?_
  refine G_getR fX11_79 rfl dX11_figure_1 (o0 hT) (r0_13 hT) ?_
  refine G_getI (v := h 39 1) fX11_252 rfl dX11_figure_4 (o39 hT) rfl ?_
  refine G_bipush dX11_figure_7 (by decide) ?_
  refine G_icmp_lt (tgt := 15) dX11_figure_9 (by decide) (by omega) (by decide) (fun c_1 => ?_) (fun c_1 => ?_)
  · refine G_aload_n (i := 0) dX11_figure_15 rfl rfl ?_
    refine G_getR fX11_79 rfl dX11_figure_16 (o0 hT) (r0_13 hT) ?_
    refine G_cVi (as := []) qX11_255 (x_parse d τ h hT (h 81 27).toNat ⟨by omega, by omega⟩ txx.2.1 (h 81 26).toNat (figL h) y.fg_ (fun f hf => figL_ok x (by omega))) rfl rfl (Nat.le_of_ble_eq_true rfl) (o39 hT) dX11_figure_19 (fun v1 g e1 => ?_)
    rw [PR_41 x y, hr] at e1
    obtain ⟨e1, e2, fr⟩ := e1
    have rng : -1 ≤ v1 ∧ v1 ≤ 80 := by by_cases q : r0.1 = -1; (have := (e2 q).1; omega); (have := e1 q; omega)
    have e391 : g 39 1 = h 39 1 := fr 39 1 (by decide) (by decide) (by decide) (by decide)
    refine G_istore_n (i := 1) (ls' := [some (.inr (some 0)), some (.inl v1)]) dX11_figure_22 rfl (by decide) rfl ?_
    refine G_aload_n (i := 0) dX11_figure_23 rfl rfl ?_
    refine G_getR fX11_79 rfl dX11_figure_24 (o0 hT) (r0_13 hT) ?_
    refine G_iconst dX11_figure_27 ?_
    refine G_putI fX11_249 dX11_figure_28 (o39 hT) ?_
    refine G_iload_n (i := 1) dX11_figure_31 rfl rfl ?_
    refine G_if_lt (tgt := 40) dX11_figure_32 (by decide) (by omega) (fun c_2 => ?_) (fun c_2 => ?_)
    · have h1 : r0.1 = -1 := Classical.byContradiction fun q => by have := e1 q; omega
      obtain ⟨e3, ox⟩ := e2 h1
      have t5 := ox.2.2.2
      have t6 : g 39 5 = 0 ∨ g 39 5 = 1 := by rw [t5]; split; (exact Or.inr rfl); (exact Or.inl rfl)
      refine G_aload_n (i := 0) dX11_figure_40 rfl rfl ?_
      refine G_getR fX11_79 rfl dX11_figure_41 (o0 hT) (r0_13 hT) ?_
      refine G_getI (v := g 39 5) fX11_258 rfl dX11_figure_44 (o39 hT) (hs_ni (by decide)) ?_
      refine G_if_eq (tgt := 53) dX11_figure_47 (by decide) (by omega) (fun c_3 => ?_) (fun c_3 => ?_)
      · refine G_aload_n (i := 0) dX11_figure_53 rfl rfl ?_
        refine G_getR fX11_79 rfl dX11_figure_54 (o0 hT) (r0_13 hT) ?_
        obtain ⟨N, hN⟩ : ∃ N : Nat, r0.2.1.length = N := ⟨_, rfl⟩
        have o1_ := ox.1
        have o2_ := ox.2.1
        suffices hh : ∀ B : Nat, B = (2 + N) + (300 - N) → G_ mX11_figure (d + 5) 2 B 57 [some (.inr (some 0)), some (.inl v1)] [.inr (some 39)] τ (hs_ g 39 3 0) (fun r_ τ1 h1 => (h 81 26 = 10 → r_ = some (.inl (-4)) ∧ τ1 = τ ∧ h1 = h) ∧ (h 81 26 ≠ 10 → ∃ g : HT, FRr h g ∧ (r0.1 ≠ -1 → r_ = some (.inl (-10 - r0.1)) ∧ τ1 = τ ∧ h1 = (hs_ g 39 3 0)) ∧ (r0.1 = -1 → r0.2.2 = true → r_ = some (.inl (-2)) ∧ τ1 = τ ∧ h1 = (hs_ g 39 3 0)) ∧ (r0.1 = -1 → r0.2.2 ≠ true → OX g r0.2 ∧ r_ = some (.inl (h 39 1)) ∧ τ1 = tKp τ (hs_ g 39 3 0) r0.2.1.length ∧ h1 = hKp τ (hs_ g 39 3 0) r0.2.1.length))) by exact hh 302 (by omega)
        intro B hB; subst hB
        have k1 : (hs_ g 39 3 0) 39 1 = h 39 1 := by rw [hs_ni (by decide)]; exact e391
        refine G_callV (bc := 0) (bs := 300 - N) (as := []) qX11_261 (x_keep (d + 1) τ (hs_ g 39 3 0) hT N (by omega) (by omega) (by rw [hs_na (by decide)]; omega) (by rw [k1]; omega)) rfl rfl (Nat.le_of_ble_eq_true rfl) (o39 hT) dX11_figure_57 (fun r_ τ' h' e' => ?_)
        obtain ⟨rfl, rfl, rfl⟩ := e'
        refine G_iret rfl dX11_figure_60 ?_
        exact ⟨fun q => absurd q (by omega), fun _ => ⟨g, fr, fun q => absurd h1 q, fun _ q => absurd (show g 39 5 = 1 by rw [t5, if_pos q]) (by omega), fun _ _ => ⟨ox, by rw [k1], by rw [hN], by rw [hN]⟩⟩⟩
      · refine G_bipush dX11_figure_50 (by decide) ?_
        refine G_iret rfl dX11_figure_52 ?_
        exact ⟨fun q => absurd q (by omega), fun _ => ⟨g, fr, fun q => absurd h1 q, fun _ _ => ⟨rfl, rfl, rfl⟩, fun _ q => absurd (show r0.2.2 = true from Classical.byContradiction fun z => by rw [if_neg z] at t5; omega) q⟩⟩
    · refine G_bipush dX11_figure_35 (by decide) ?_
      refine G_iload_n (i := 1) dX11_figure_37 rfl rfl ?_
      refine G_isub dX11_figure_38 ?_
      refine G_iret rfl dX11_figure_39 ?_
      have q1 : r0.1 ≠ -1 := fun q => (by have := (e2 q).1; omega)
      exact ⟨fun q => absurd q (by omega), fun _ => ⟨g, fr, fun _ => ⟨by rw [e1 q1], rfl, rfl⟩, fun q => absurd q q1, fun q => absurd q q1⟩⟩
  · refine G_bipush dX11_figure_12 (by decide) ?_
    refine G_iret rfl dX11_figure_14 ?_
    exact ⟨fun _ => ⟨rfl, rfl, rfl⟩, fun q => absurd q (by omega)⟩

