/-! a step of the dance, here and there -/
/-- what a step does to the class's cells -/
def DSP (h h' : HT) (n : Int) (T : TR) (s v : Int) : Prop :=
  ((t_tk n T s).1 ≠ 0 → v = (t_tk n T s).1 ∧ FT n h' 6 T ∧ ∀ a i : Nat, ¬ (6 ≤ a ∧ a ≤ 10) → ¬ (81 ≤ a ∧ a ≤ 125) → h' a i = h a i) ∧
  ((t_tk n T s).1 = 0 → v = T.1 + 1 ∧
    FT n h' 6 (if 100 ≤ s then ((t_tk n T s).2.1, (t_tk n T s).2.2.1, (t_tk n T s).2.2.2.1, (t_tk n T s).2.2.2.2.1, fun _ => 0) else (t_tk n T s).2) ∧
    h' 11 1 = T.1 + 1 ∧ (∀ k, h' 12 k = if k = T.1.toNat then s else h 12 k) ∧ h' 13 0 = h 13 0 ∧
    (s < 100 → h' 13 1 = h 13 1 ∧ ∀ k, h' 14 k = h 14 k ∧ h' 15 k = h 15 k ∧ h' 16 k = h 16 k) ∧
    (100 ≤ s → h' 13 1 = T.2.1 + 1 ∧ ∀ k, h' 14 k = (if 9 * T.2.1.toNat ≤ k ∧ k < 9 * T.2.1.toNat + n.toNat then (t_tk n T s).2.2.2.1 (k - 9 * T.2.1.toNat) else h 14 k) ∧ h' 15 k = (if 9 * T.2.1.toNat ≤ k ∧ k < 9 * T.2.1.toNat + n.toNat then (t_tk n T s).2.2.2.2.2 (k - 9 * T.2.1.toNat) else h 15 k) ∧ h' 16 k = (if 9 * T.2.1.toNat ≤ k ∧ k < 9 * T.2.1.toNat + n.toNat then x_top h' T.2.1 ((k - 9 * T.2.1.toNat : Nat) : Int) else h 16 k)) ∧
    (∀ a i : Nat, ¬ (6 ≤ a ∧ a ≤ 16) → ¬ (81 ≤ a ∧ a ≤ 125) → h' a i = h a i))
theorem t_tp_none {n : Int} {T : TR} {p w : Int} (e : t_pass n T p w = none) : t_tp n T p w = (-3, T) := by unfold t_tp; rw [e]
theorem t_tp_some {n : Int} {T T' : TR} {p w : Int} (e : t_pass n T p w = some T') : t_tp n T p w = if 300 ≤ T.1 then (-4, T) else (0, (T.1 + 1, T'.2)) := by unfold t_tp; rw [e]
theorem t_tk_0 {n : Int} {T : TR} {s : Int} (h : (t_tk n T s).1 = 0) : T.1 < 300 ∧ (100 ≤ s → T.2.1 < 100) ∧ (100 ≤ s → (t_tk n T s).2 = (T.1 + 1, T.2.1 + 1, (fun p => T.2.2.1 (f_rot n.toNat (s - 100) p)), (fun p => T.2.2.2.1 p - (10 + T.2.1.tdiv 3)), T.2.2.2.2)) := by
  unfold t_tk at h ⊢
  by_cases z : 100 ≤ s
  · rw [if_pos z] at h ⊢
    unfold t_tw at h ⊢
    by_cases y : t_len n T
    · rw [if_pos y] at h ⊢
      by_cases w : 300 ≤ T.1 ∨ 100 ≤ T.2.1
      · rw [if_pos w] at h; exact absurd h (show ¬ (-4 : Int) = 0 by decide)
      · rw [if_neg w]; exact ⟨by omega, fun _ => by omega, fun _ => rfl⟩
    · rw [if_neg y] at h; exact absurd h (show ¬ (-3 : Int) = 0 by decide)
  · rw [if_neg z] at h
    cases e : t_pass n T (s.tdiv 10) (s.tmod 10) with
    | none => rw [t_tp_none e] at h; exact absurd h (show ¬ (-3 : Int) = 0 by decide)
    | some T' =>
      rw [t_tp_some e] at h
      by_cases w : 300 ≤ T.1
      · rw [if_pos w] at h; exact absurd h (show ¬ (-4 : Int) = 0 by decide)
      · exact ⟨by omega, fun q => absurd q z, fun q => absurd q z⟩
theorem t_tk_n {n : Int} {T : TR} {s : Int} (h : (t_tk n T s).1 ≠ 0) : (t_tk n T s).2 = T := by
  unfold t_tk at h ⊢
  by_cases z : 100 ≤ s
  · rw [if_pos z] at h ⊢
    unfold t_tw at h ⊢
    by_cases y : t_len n T
    · rw [if_pos y] at h ⊢
      by_cases w : 300 ≤ T.1 ∨ 100 ≤ T.2.1
      · rw [if_pos w]
      · rw [if_neg w] at h; exact absurd rfl h
    · rw [if_neg y]
  · rw [if_neg z] at h ⊢
    cases e : t_pass n T (s.tdiv 10) (s.tmod 10) with
    | none => rw [t_tp_none e]
    | some T' =>
      rw [t_tp_some e] at h ⊢
      by_cases w : 300 ≤ T.1
      · rw [if_pos w]
      · rw [if_neg w] at h; exact absurd rfl h
theorem lay11 {g : HT} {R N : Nat} {v : Int} {k : Nat} : x_unm (hs_ (x_ly2 (x_ly1 g R N) R N) 13 1 v) 6 11 k = g 11 k := by
  unfold x_unm; rw [hf_na (by decide), hs_na (by decide), x_ly2_o (by decide)]; unfold x_ly1; rw [hf_na (by decide), hf_na (by decide)]
theorem lay_rf {g : HT} {R N : Nat} {v s : Int} {a k : Nat} (h : ¬ (6 ≤ a ∧ a ≤ 16)) : x_addH (x_unm (hs_ (x_ly2 (x_ly1 g R N) R N) 13 1 v) 6) 11 300 s a k = g a k := by
  have e : x_unm (hs_ (x_ly2 (x_ly1 g R N) R N) 13 1 v) 6 a k = g a k := by
    unfold x_unm; rw [hf_na (by omega), hs_na (by omega), x_ly2_o (by omega)]; unfold x_ly1; rw [hf_na (by omega), hf_na (by omega)]
  unfold x_addH
  split
  · rw [hs_na (by omega), hs_na (by omega)]; exact e
  · exact e
theorem addH_v {g : HT} {s c : Int} (h : g 11 1 = c) (hc : c < 300) : x_addH g 11 300 s = hs_ (hs_ g 12 c.toNat s) 11 1 (c + 1) := by
  unfold x_addH; rw [h, if_pos (by omega)]
theorem x_walk_D {h g : HT} {n : Int} {T : TR} {s v1 : Int} (hn : 3 ≤ n ∧ n ≤ 9) (e1 : v1 = (t_tk n T s).1) (e2 : FT n g 6 (t_tk n T s).2) (e3 : FRl 6 h g) (hc : h 13 0 = n ∧ h 13 1 = T.2.1) (h11 : h 11 1 = T.1) (hv : v1 = 0) (hs : 100 ≤ s) (hTr : 0 ≤ T.2.1) : DSP h (x_addH (x_unm (hs_ (x_ly2 (x_ly1 g T.2.1.toNat n.toNat) T.2.1.toNat n.toNat) 13 1 ((T.2.1.toNat : Int) + 1)) 6) 11 300 s) n T s (x_addH (x_unm (hs_ (x_ly2 (x_ly1 g T.2.1.toNat n.toNat) T.2.1.toNat n.toNat) 13 1 ((T.2.1.toNat : Int) + 1)) 6) 11 300 s 11 1) := by
  have q0 : (t_tk n T s).1 = 0 := by rw [← e1]; exact hv
  have t0 := t_tk_0 q0
  have tv := t0.2.2 hs
  have g13 : ∀ k, g 13 k = h 13 k := fun k => e3 13 k (by omega)
  refine ⟨fun q => absurd q0 q, fun _ => ?_⟩
  have a1 : x_unm (hs_ (x_ly2 (x_ly1 g T.2.1.toNat n.toNat) T.2.1.toNat n.toNat) 13 1 ((T.2.1.toNat : Int) + 1)) 6 11 1 = T.1 := by rw [lay11, e3 11 1 (by omega)]; exact h11
  rw [addH_v a1 t0.1]
  generalize hR : T.2.1.toNat = R
  generalize hN : n.toNat = N
  have hR2 : T.2.1 = (R : Int) ∨ T.2.1 < 0 := by omega
  generalize hG : x_ly1 g R N = G
  have G14 : ∀ k, G 14 k = if 9 * R ≤ k ∧ k < 9 * R + N then g 7 (k - 9 * R) else g 14 k := fun k => by
    rw [← hG]; unfold x_ly1; rw [hf_na (by decide)]; unfold hf_; by_cases z : 9 * R ≤ k ∧ k < 9 * R + N <;> simp [z]
  have G15 : ∀ k, G 15 k = if 9 * R ≤ k ∧ k < 9 * R + N then g 9 (k - 9 * R) else g 15 k := fun k => by
    rw [← hG]; unfold x_ly1
    by_cases z : 9 * R ≤ k ∧ k < 9 * R + N
    · rw [hf_in z, if_pos z]
    · rw [hf_ni z, if_neg z, hf_na (by decide)]
  have Go : ∀ a k, a ≠ 14 → a ≠ 15 → G a k = g a k := fun a k z1 z2 => by rw [← hG]; unfold x_ly1; rw [hf_na z2, hf_na z1]
  generalize hX : hs_ (hs_ (x_unm (hs_ (x_ly2 G R N) 13 1 ((R : Int) + 1)) 6) 12 T.1.toNat s) 11 1 (T.1 + 1) = X
  have Xo : ∀ a k, a ≠ 11 → a ≠ 12 → a ≠ 9 → a ≠ 16 → ¬ (a = 13 ∧ k = 1) → X a k = G a k := fun a k z1 z2 z3 z4 z5 => by
    rw [← hX, hs_na z1, hs_na z2]; unfold x_unm; rw [hf_na (by omega), show ∀ (Y : HT) v, hs_ Y 13 1 v a k = Y a k from fun Y v => if_neg z5, x_ly2_o z4]
  have X9 : ∀ k, k < 9 → X 9 k = 0 := fun k hk => by
    rw [← hX, hs_na (by decide), hs_na (by decide)]; unfold x_unm; rw [hf_in ⟨Nat.zero_le _, hk⟩]
  have X16 : ∀ k, X 16 k = if 9 * R ≤ k ∧ k < 9 * R + N then x_top G (R : Int) ((k - 9 * R : Nat) : Int) else h 16 k := fun k => by
    rw [← hX, hs_na (by decide), hs_na (by decide)]; unfold x_unm; rw [hf_na (by decide), hs_na (by decide)]; unfold x_ly2
    by_cases z : 9 * R ≤ k ∧ k < 9 * R + N
    · rw [hf_in z, if_pos z]
    · rw [hf_ni z, if_neg z, Go 16 k (by decide) (by decide), e3 16 k (by omega)]
  refine ⟨by rw [← hX, hs_eq], ?_, by rw [← hX, hs_eq], fun k => ?_, ?_, fun z => by omega, fun _ => ⟨?_, fun k => ⟨?_, ?_, ?_⟩⟩, fun a i z _ => ?_⟩
  · rw [if_pos hs]
    obtain ⟨f0, f1, f2, f3⟩ := e2
    refine ⟨?_, ?_, ?_, fun p hp => ⟨?_, ?_, ?_⟩⟩
    · rw [Xo 6 0 (by decide) (by decide) (by decide) (by decide) (by decide), Go 6 0 (by decide) (by decide)]; exact f0
    · rw [Xo 6 1 (by decide) (by decide) (by decide) (by decide) (by decide), Go 6 1 (by decide) (by decide)]; exact f1
    · rw [Xo 6 2 (by decide) (by decide) (by decide) (by decide) (by decide), Go 6 2 (by decide) (by decide)]; exact f2
    · show X 7 p = _
      rw [Xo 7 p (by decide) (by decide) (by decide) (by decide) (by omega), Go 7 p (by decide) (by decide)]; exact (f3 p hp).1
    · show X 8 p = _
      rw [Xo 8 p (by decide) (by decide) (by decide) (by decide) (by omega), Go 8 p (by decide) (by decide)]; exact (f3 p hp).2.1
    · exact X9 p (by omega)
  · rw [← hX, hs_na (by decide)]
    by_cases z : k = T.1.toNat
    · rw [if_pos z, z, hs_eq]
    · rw [if_neg z, hs_ni z]; unfold x_unm; rw [hf_na (by decide), hs_na (by decide), x_ly2_o (by decide), Go 12 k (by decide) (by decide), e3 12 k (by omega)]
  · rw [Xo 13 0 (by decide) (by decide) (by decide) (by decide) (by decide), Go 13 0 (by decide) (by decide), g13]
  · rw [← hX, hs_na (by decide), hs_na (by decide)]; unfold x_unm; rw [hf_na (by decide), hs_eq]
    have := t0.2.1 hs
    omega
  · rw [Xo 14 k (by decide) (by decide) (by decide) (by decide) (by omega), G14]
    by_cases z : 9 * R ≤ k ∧ k < 9 * R + N
    · rw [if_pos z, if_pos z]; exact (e2.2.2.2 (k - 9 * R) (by omega)).1
    · rw [if_neg z, if_neg z, e3 14 k (by omega)]
  · rw [Xo 15 k (by decide) (by decide) (by decide) (by decide) (by omega), G15]
    by_cases z : 9 * R ≤ k ∧ k < 9 * R + N
    · rw [if_pos z, if_pos z]; exact (e2.2.2.2 (k - 9 * R) (by omega)).2.2
    · rw [if_neg z, if_neg z, e3 15 k (by omega)]
  · rw [X16]
    by_cases z : 9 * R ≤ k ∧ k < 9 * R + N
    · rw [if_pos z, if_pos z, show T.2.1 = (R : Int) by omega]
      exact (x_top_c (h := G) (g := X) (Xo 13 0 (by decide) (by decide) (by decide) (by decide) (by decide)) (fun j => Xo 14 j (by decide) (by decide) (by decide) (by decide) (by omega)) (fun j => Xo 15 j (by decide) (by decide) (by decide) (by decide) (by omega))).symm
    · rw [if_neg z, if_neg z]
  · rw [Xo a i (by omega) (by omega) (by omega) (by omega) (by omega), Go a i (by omega) (by omega), e3 a i (by omega)]
theorem x_doStep (d : Nat) (τ : TT) (h : HT) (hT : TK τ) (n : Int) (T : TR) (hn : 3 ≤ n ∧ n ≤ 9) (ft : FT n h 6 T) (ok : t_ok n T) (hd : h 0 6 = 1) (hc : h 13 0 = n ∧ h 13 1 = T.2.1) (h11 : h 11 1 = T.1) (h15 : ∀ k : Nat, k < 900 → 0 ≤ h 15 k ∧ h 15 k ≤ 2) (s : Int) (hs : f_okc s) : S_ mX11_doStep (d + 3) 0 0 [.inr (some 0), .inl s] τ h (Zi τ fun v h' => DSP h h' n T s v ∧ RF h h') := by
  have hsr := f_okc_r hs
  have ok1 := ok.1
  have ok21 := ok.2.1
  refine S_go (k := 1) (ls := [some (.inr (some 0)), some (.inl s), none]) (by decide) rfl (Nat.le_of_ble_eq_true rfl) rfl ?_
  refine G_aload_n (i := 0) dX11_doStep_0 rfl rfl ?_
  refine G_getI (v := h 0 6) fX11_40 rfl dX11_doStep_1 (o0 hT) rfl ?_
  refine G_if_ne (tgt := 10) dX11_doStep_4 (by decide) (by omega) (fun c_1 => ?_) (fun c_1 => ?_)
  · refine G_aload_n (i := 0) dX11_doStep_10 rfl rfl ?_
    refine G_getR fX11_36 rfl dX11_doStep_11 (o0 hT) (r0_5 hT) ?_
    refine G_iload_n (i := 1) dX11_doStep_14 rfl rfl ?_
    refine G_cVi (as := [.inl s]) qX11_346 (x_take d τ h 6 (fl6 hT) n T hn ft ok s hs) rfl rfl (Nat.le_of_ble_eq_true rfl) (o6 hT) dX11_doStep_15 (fun v1 g e1 => ?_)
    obtain ⟨e1, e2, e3⟩ := e1
    have tr := t_tk_r (n := n) (T := T) (s := s)
    rw [← e1] at tr
    have g13 : ∀ k, g 13 k = h 13 k := fun k => e3 13 k (by omega)
    have g11 : ∀ k, g 11 k = h 11 k := fun k => e3 11 k (by omega)
    refine G_istore_n (i := 2) (ls' := [some (.inr (some 0)), some (.inl s), some (.inl v1)]) dX11_doStep_18 rfl (by decide) rfl ?_
    refine G_iload_n (i := 2) dX11_doStep_19 rfl rfl ?_
    refine G_if_eq (tgt := 25) dX11_doStep_20 (by decide) (by omega) (fun c_2 => ?_) (fun c_2 => ?_)
    · have t0 := t_tk_0 (n := n) (T := T) (s := s) (by omega)
      have ok2 := t_tk_ok hn.1 ok hs
      refine G_iload_n (i := 1) dX11_doStep_25 rfl rfl ?_
      refine G_bipush dX11_doStep_26 (by decide) ?_
      refine G_icmp_lt (tgt := 49) dX11_doStep_28 (by decide) (by omega) (by decide) (fun c_3 => ?_) (fun c_3 => ?_)
      · refine G_aload_n (i := 0) dX11_doStep_49 rfl rfl ?_
        refine G_getR fX11_49 rfl dX11_doStep_50 (o0 hT) (r0_7 hT) ?_
        refine G_iload_n (i := 1) dX11_doStep_53 rfl rfl ?_
        refine G_cVi (as := [.inl s]) qX11_353 (x_add (d + 2) τ g 11 300 (st11 hT) s (by rw [g11]; omega)) rfl rfl (Nat.le_of_ble_eq_true rfl) (o11 hT) dX11_doStep_54 (fun v' h' e' => ?_)
        obtain ⟨rfl, rfl⟩ := e'
        refine G_pop dX11_doStep_57 ?_
        refine G_aload_n (i := 0) dX11_doStep_58 rfl rfl ?_
        refine G_getR fX11_49 rfl dX11_doStep_59 (o0 hT) (r0_7 hT) ?_
        refine G_getI (v := (x_addH g 11 300 s) 11 1) fX11_174 rfl dX11_doStep_62 (o11 hT) rfl ?_
        refine G_iretZ rfl dX11_doStep_65 ?_
        rw [addH_v (g := g) (s := s) (c := T.1) (by rw [g11]; exact h11) t0.1]
        refine ⟨⟨fun q => by omega, fun q => ?_⟩, fun a i z1 z2 => by rw [hs_na (by omega), hs_na (by omega)]; exact e3 a i (by omega)⟩
        refine ⟨hs_eq, ?_, hs_eq, fun k => ?_, ?_, fun _ => ⟨?_, fun k => ⟨?_, ?_, ?_⟩⟩, fun z => by omega, fun a i z _ => ?_⟩
        · rw [if_neg (by omega)]; exact e2.fr (fun b j b1 b2 => by rw [hs_na (by omega), hs_na (by omega)])
        · rw [hs_na (by decide)]; by_cases z : k = T.1.toNat; (rw [if_pos z, z, hs_eq]); (rw [if_neg z, hs_ni z]; exact e3 12 k (by omega))
        · rw [hs_na (by decide), hs_na (by decide), g13]
        · rw [hs_na (by decide), hs_na (by decide), g13]
        · rw [hs_na (by decide), hs_na (by decide)]; exact e3 14 k (by omega)
        · rw [hs_na (by decide), hs_na (by decide)]; exact e3 15 k (by omega)
        · rw [hs_na (by decide), hs_na (by decide)]; exact e3 16 k (by omega)
        · rw [hs_na (by omega), hs_na (by omega)]; exact e3 a i (by omega)
      · refine G_aload_n (i := 0) dX11_doStep_31 rfl rfl ?_
        refine G_getR fX11_56 rfl dX11_doStep_32 (o0 hT) (r0_8 hT) ?_
        refine G_aload_n (i := 0) dX11_doStep_35 rfl rfl ?_
        refine G_getR fX11_36 rfl dX11_doStep_36 (o0 hT) (r0_5 hT) ?_
        refine G_cVv (as := [.inr (some 6)]) qX11_348 (x_layC d τ g hT T.2.1.toNat n.toNat ⟨by rw [g13]; omega, by omega⟩ ⟨by rw [g13]; omega, by have := t0.2.1 (by omega); omega⟩ (fun k hk => by rw [e3 15 k (by omega)]; exact h15 k hk) (fun k hk => by rw [(e2.2.2.2 k (by omega)).2.2]; exact ok2.2.2.2.2.2 k (by omega))) rfl rfl (Nat.le_of_ble_eq_true rfl) (o13 hT) dX11_doStep_39 (fun h' e' => ?_)
        subst e'
        refine G_aload_n (i := 0) dX11_doStep_42 rfl rfl ?_
        refine G_getR fX11_36 rfl dX11_doStep_43 (o0 hT) (r0_5 hT) ?_
        refine G_cVv (as := []) qX11_350 (x_unmark (d + 1) τ (hs_ (x_ly2 (x_ly1 g T.2.1.toNat n.toNat) T.2.1.toNat n.toNat) 13 1 ((T.2.1.toNat : Int) + 1)) 6 (fl6 hT)) rfl rfl (Nat.le_of_ble_eq_true rfl) (o6 hT) dX11_doStep_46 (fun h' e' => ?_)
        subst e'
        refine G_aload_n (i := 0) dX11_doStep_49 rfl rfl ?_
        refine G_getR fX11_49 rfl dX11_doStep_50 (o0 hT) (r0_7 hT) ?_
        refine G_iload_n (i := 1) dX11_doStep_53 rfl rfl ?_
        refine G_cVi (as := [.inl s]) qX11_353 (x_add (d + 2) τ (x_unm (hs_ (x_ly2 (x_ly1 g T.2.1.toNat n.toNat) T.2.1.toNat n.toNat) 13 1 ((T.2.1.toNat : Int) + 1)) 6) 11 300 (st11 hT) s (by rw [lay11, g11]; omega)) rfl rfl (Nat.le_of_ble_eq_true rfl) (o11 hT) dX11_doStep_54 (fun v' h' e' => ?_)
        obtain ⟨rfl, rfl⟩ := e'
        refine G_pop dX11_doStep_57 ?_
        refine G_aload_n (i := 0) dX11_doStep_58 rfl rfl ?_
        refine G_getR fX11_49 rfl dX11_doStep_59 (o0 hT) (r0_7 hT) ?_
        refine G_getI (v := (x_addH (x_unm (hs_ (x_ly2 (x_ly1 g T.2.1.toNat n.toNat) T.2.1.toNat n.toNat) 13 1 ((T.2.1.toNat : Int) + 1)) 6) 11 300 s) 11 1) fX11_174 rfl dX11_doStep_62 (o11 hT) rfl ?_
        refine G_iretZ rfl dX11_doStep_65 ?_
        exact ⟨x_walk_D hn e1 e2 e3 hc h11 (by omega) (by omega) ok.2.1.1, fun a i z1 z2 => (lay_rf (by omega)).trans (e3 a i (by omega))⟩
    · refine G_iload_n (i := 2) dX11_doStep_23 rfl rfl ?_
      refine G_iretZ rfl dX11_doStep_24 ?_
      refine ⟨⟨fun q => ⟨e1, by rw [← t_tk_n q]; exact e2, fun a i q _ => e3 a i (by omega)⟩, fun q => by omega⟩, fun a i z1 z2 => e3 a i (by omega)⟩
  · refine G_bipush dX11_doStep_7 (by decide) ?_
    refine G_iretZ rfl dX11_doStep_9 ?_
    exfalso; omega

