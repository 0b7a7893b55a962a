/-! the class: a floor -/
/-- what is not of the floor at a is as it was -/
def FRl (a : Nat) (h h' : HT) : Prop := ∀ b j : Nat, ¬ (a ≤ b ∧ b ≤ a + 4) → h' b j = h b j
theorem FRl.rf {a : Nat} {h : HT} : FRl a h h := fun _ _ _ => rfl
theorem FRl.tr {a : Nat} {h g k : HT} (x : FRl a h g) (y : FRl a g k) : FRl a h k := fun b j z => (y b j z).trans (x b j z)
def FT (n : Int) (h : HT) (a : Nat) (T : TR) : Prop := h a 0 = n ∧ h a 1 = T.1 ∧ h a 2 = T.2.1 ∧ ∀ p : Nat, (p : Int) < n → h (a + 1) p = T.2.2.1 p ∧ h (a + 2) p = T.2.2.2.1 p ∧ h (a + 3) p = T.2.2.2.2 p
theorem FT.fr {n : Int} {h h' : HT} {a : Nat} {T : TR} (x : FT n h a T) (e : ∀ b j : Nat, a ≤ b → b ≤ a + 3 → h' b j = h b j) : FT n h' a T := by
  obtain ⟨x0, x1, x2, x3⟩ := x
  refine ⟨(e a 0 (by omega) (by omega)).trans x0, (e a 1 (by omega) (by omega)).trans x1, (e a 2 (by omega) (by omega)).trans x2, fun p hp => ?_⟩
  rw [e (a + 1) p (by omega) (by omega), e (a + 2) p (by omega) (by omega), e (a + 3) p (by omega) (by omega)]
  exact x3 p hp
def x_unm (h : HT) (a : Nat) : HT := hf_ h (a + 3) 0 9 (fun _ => 0)
def x_cbp (h : HT) (a : Nat) : HT := hf_ h (a + 1) 0 9 (fun j => (j : Int))
def x_rst (h : HT) (a : Nat) : HT := x_unm (x_cbp (hs_ (hs_ h a 1 0) a 2 0) a) a
def x_lay (h : HT) (a : Nat) (n : Int) : HT := x_rst (hf_ (hs_ h a 0 n) (a + 2) 0 9 (fun _ => 0)) a
def x_cpy (h : HT) (a b : Nat) : HT := hf_ (hf_ (hf_ (hs_ (hs_ (hs_ h a 0 (h b 0)) a 1 (h b 1)) a 2 (h b 2)) (a + 1) 0 9 (h (b + 1))) (a + 2) 0 9 (h (b + 2))) (a + 3) 0 9 (h (b + 3))
def x_btp (h : HT) (a r : Nat) : HT := hf_ (hf_ h (a + 4) 0 (h a 0).toNat (fun j => h r (h (a + 1) j).toNat)) r 0 (h a 0).toNat (fun j => h r (h (a + 1) j).toNat)
theorem x_unmark (d : Nat) (τ : TT) (h : HT) (a : Nat) (hF : FL τ a) : S_ mX2_unmark (d + 1) 0 0 [.inr (some a)] τ h (Zv τ fun h' => h' = x_unm h a) := by
  refine S_go (k := 0) (ls := [some (.inr (some a))]) (by decide) rfl (Nat.le_of_ble_eq_true rfl) rfl ?_
  refine G_aload_n (i := 0) dX2_unmark_0 rfl rfl ?_
  refine G_getR fX2_28 rfl dX2_unmark_1 hF.1 hF.2.2.2.2.2.2.2.1 ?_
  refine G_iconst dX2_unmark_4 ?_
  refine G_cSv (as := [.inr (some (a + 3)), .inl 0]) qX2_34 (j_fill d τ h (a + 3) 9 hF.2.2.2.1 0) rfl rfl (Nat.le_of_ble_eq_true rfl) dX2_unmark_5 (fun h' e' => ?_)
  subst e'
  refine G_vretZ rfl dX2_unmark_8 ?_
  rfl

theorem x_callByPlaces_L (d : Nat) (τ : TT) (h : HT) (a : Nat) (hF : FL τ a) : ∀ (n_ : Nat) (i : Nat), 9 - i < n_ → i ≤ 9 → G_ mX2_callByPlaces d 0 0 2 [some (.inr (some a)), some (.inl (i : Int))] [] τ (hf_ h (a + 1) 0 i (fun j => (j : Int))) (Zv τ fun h' => h' = x_cbp h a) := by
  intro n_
  induction n_ with
  | zero => intro i hm_; exact absurd hm_ (Nat.not_lt_zero _)
  | succ n_ ih =>
    intro i hm_ hi
    refine G_iload_n (i := 1) dX2_callByPlaces_2 rfl rfl ?_
    refine G_bipush dX2_callByPlaces_3 (by decide) ?_
    refine G_icmp_ge (tgt := 21) dX2_callByPlaces_5 (by decide) (by omega) (by decide) (fun c_1 => ?_) (fun c_1 => ?_)
    · refine G_vretZ rfl dX2_callByPlaces_21 ?_
      obtain rfl : i = 9 := by omega
      rfl
    · refine G_aload_n (i := 0) dX2_callByPlaces_8 rfl rfl ?_
      refine G_getR fX2_21 rfl dX2_callByPlaces_9 hF.1 hF.2.2.2.2.2.1 ?_
      refine G_iload_n (i := 1) dX2_callByPlaces_12 rfl rfl ?_
      refine G_iload_n (i := 1) dX2_callByPlaces_13 rfl rfl ?_
      refine G_iastk i dX2_callByPlaces_14 hF.2.1 (by omega) rfl ?_
      refine G_iinc (ls' := [some (.inr (some a)), some (.inl ((i : Int) + 1))]) dX2_callByPlaces_15 (by decide) rfl rfl ?_
      refine G_goto (tgt := 2) dX2_callByPlaces_18 (by decide) ?_
      rw [hf_snoc (Nat.zero_le _) rfl]
      exact ih (i + 1) (by omega) (by omega)

theorem x_callByPlaces (d : Nat) (τ : TT) (h : HT) (a : Nat) (hF : FL τ a) : S_ mX2_callByPlaces d 0 0 [.inr (some a)] τ h (Zv τ fun h' => h' = x_cbp h a) := by
  refine S_go (k := 1) (ls := [some (.inr (some a)), none]) (by decide) rfl (Nat.le_of_ble_eq_true rfl) rfl ?_
  refine G_iconst dX2_callByPlaces_0 ?_
  refine G_istore_n (i := 1) (ls' := [some (.inr (some a)), some (.inl 0)]) dX2_callByPlaces_1 rfl (by decide) rfl ?_
  have := x_callByPlaces_L d τ h a hF _ 0 (Nat.lt_succ_self _) (Nat.zero_le _)
  rw [hf_nil] at this
  exact this

theorem x_restart (d : Nat) (τ : TT) (h : HT) (a : Nat) (hF : FL τ a) : S_ mX2_restart (d + 2) 0 0 [.inr (some a)] τ h (Zv τ fun h' => h' = x_rst h a) := by
  refine S_go (k := 0) (ls := [some (.inr (some a))]) (by decide) rfl (Nat.le_of_ble_eq_true rfl) rfl ?_
  refine G_aload_n (i := 0) dX2_restart_0 rfl rfl ?_
  refine G_iconst dX2_restart_1 ?_
  refine G_putI fX2_15 dX2_restart_2 hF.1 ?_
  refine G_aload_n (i := 0) dX2_restart_5 rfl rfl ?_
  refine G_iconst dX2_restart_6 ?_
  refine G_putI fX2_18 dX2_restart_7 hF.1 ?_
  refine G_aload_n (i := 0) dX2_restart_10 rfl rfl ?_
  refine G_cVv (as := []) qX2_43 (x_callByPlaces (d + 1) τ (hs_ (hs_ h a 1 0) a 2 0) a hF) rfl rfl (Nat.le_of_ble_eq_true rfl) hF.1 dX2_restart_11 (fun h' e' => ?_)
  subst e'
  refine G_aload_n (i := 0) dX2_restart_14 rfl rfl ?_
  refine G_cVv (as := []) qX2_46 (x_unmark d τ (x_cbp (hs_ (hs_ h a 1 0) a 2 0) a) a hF) rfl rfl (Nat.le_of_ble_eq_true rfl) hF.1 dX2_restart_15 (fun h' e' => ?_)
  subst e'
  refine G_vretZ rfl dX2_restart_18 ?_
  rfl

theorem x_layF (d : Nat) (τ : TT) (h : HT) (a : Nat) (hF : FL τ a) (n : Int) : S_ mX2_lay (d + 3) 0 0 [.inr (some a), .inl n] τ h (Zv τ fun h' => h' = x_lay h a n) := by
  refine S_go (k := 0) (ls := [some (.inr (some a)), some (.inl n)]) (by decide) rfl (Nat.le_of_ble_eq_true rfl) rfl ?_
  refine G_aload_n (i := 0) dX2_lay_0 rfl rfl ?_
  refine G_iload_n (i := 1) dX2_lay_1 rfl rfl ?_
  refine G_putI fX2_9 dX2_lay_2 hF.1 ?_
  refine G_aload_n (i := 0) dX2_lay_5 rfl rfl ?_
  refine G_getR fX2_25 rfl dX2_lay_6 hF.1 hF.2.2.2.2.2.2.1 ?_
  refine G_iconst dX2_lay_9 ?_
  refine G_cSv (as := [.inr (some (a + 2)), .inl 0]) qX2_34 (j_fill (d + 2) τ (hs_ h a 0 n) (a + 2) 9 hF.2.2.1 0) rfl rfl (Nat.le_of_ble_eq_true rfl) dX2_lay_10 (fun h' e' => ?_)
  subst e'
  refine G_aload_n (i := 0) dX2_lay_13 rfl rfl ?_
  refine G_cVv (as := []) qX2_40 (x_restart d τ (hf_ (hs_ h a 0 n) (a + 2) 0 9 (fun _ => 0)) a hF) rfl rfl (Nat.le_of_ble_eq_true rfl) hF.1 dX2_lay_14 (fun h' e' => ?_)
  subst e'
  refine G_vretZ rfl dX2_lay_17 ?_
  rfl

theorem x_copyF (d : Nat) (τ : TT) (h : HT) (a : Nat) (hF : FL τ a) (b : Nat) (hG : FL τ b) (hab : b + 4 < a ∨ a + 4 < b) : S_ mX2_copy (d + 1) 0 0 [.inr (some a), .inr (some b)] τ h (Zv τ fun h' => h' = x_cpy h a b) := by
  refine S_go (k := 0) (ls := [some (.inr (some a)), some (.inr (some b))]) (by decide) rfl (Nat.le_of_ble_eq_true rfl) rfl ?_
  refine G_aload_n (i := 0) dX2_copy_0 rfl rfl ?_
  refine G_aload_n (i := 1) dX2_copy_1 rfl rfl ?_
  refine G_getI (v := h b 0) fX2_9 rfl dX2_copy_2 hG.1 rfl ?_
  refine G_putI fX2_9 dX2_copy_5 hF.1 ?_
  refine G_aload_n (i := 0) dX2_copy_8 rfl rfl ?_
  refine G_aload_n (i := 1) dX2_copy_9 rfl rfl ?_
  refine G_getI (v := h b 1) fX2_15 rfl dX2_copy_10 hG.1 (hs_na (by omega)) ?_
  refine G_putI fX2_15 dX2_copy_13 hF.1 ?_
  refine G_aload_n (i := 0) dX2_copy_16 rfl rfl ?_
  refine G_aload_n (i := 1) dX2_copy_17 rfl rfl ?_
  refine G_getI (v := h b 2) fX2_18 rfl dX2_copy_18 hG.1 ((hs_na (by omega)).trans (hs_na (by omega))) ?_
  refine G_putI fX2_18 dX2_copy_21 hF.1 ?_
  refine G_aload_n (i := 1) dX2_copy_24 rfl rfl ?_
  refine G_getR fX2_21 rfl dX2_copy_25 hG.1 hG.2.2.2.2.2.1 ?_
  refine G_iconst dX2_copy_28 ?_
  refine G_aload_n (i := 0) dX2_copy_29 rfl rfl ?_
  refine G_getR fX2_21 rfl dX2_copy_30 hF.1 hF.2.2.2.2.2.1 ?_
  refine G_iconst dX2_copy_33 ?_
  refine G_bipush dX2_copy_34 (by decide) ?_
  refine G_copyk 0 0 9 qX2_49 (Nat.le_of_ble_eq_true rfl) dX2_copy_36 hG.2.1 hF.2.1 (by omega) (by omega) (by omega) (by omega) (by omega) rfl rfl rfl ?_
  rw [hc00k (f := h (b + 1)) (fun j_ => ((hs_na (by omega)).trans ((hs_na (by omega)).trans (hs_na (by omega)))))]
  refine G_aload_n (i := 1) dX2_copy_39 rfl rfl ?_
  refine G_getR fX2_25 rfl dX2_copy_40 hG.1 hG.2.2.2.2.2.2.1 ?_
  refine G_iconst dX2_copy_43 ?_
  refine G_aload_n (i := 0) dX2_copy_44 rfl rfl ?_
  refine G_getR fX2_25 rfl dX2_copy_45 hF.1 hF.2.2.2.2.2.2.1 ?_
  refine G_iconst dX2_copy_48 ?_
  refine G_bipush dX2_copy_49 (by decide) ?_
  refine G_copyk 0 0 9 qX2_49 (Nat.le_of_ble_eq_true rfl) dX2_copy_51 hG.2.2.1 hF.2.2.1 (by omega) (by omega) (by omega) (by omega) (by omega) rfl rfl rfl ?_
  rw [hc00k (f := h (b + 2)) (fun j_ => ((hf_na (by omega)).trans ((hs_na (by omega)).trans ((hs_na (by omega)).trans (hs_na (by omega))))))]
  refine G_aload_n (i := 1) dX2_copy_54 rfl rfl ?_
  refine G_getR fX2_28 rfl dX2_copy_55 hG.1 hG.2.2.2.2.2.2.2.1 ?_
  refine G_iconst dX2_copy_58 ?_
  refine G_aload_n (i := 0) dX2_copy_59 rfl rfl ?_
  refine G_getR fX2_28 rfl dX2_copy_60 hF.1 hF.2.2.2.2.2.2.2.1 ?_
  refine G_iconst dX2_copy_63 ?_
  refine G_bipush dX2_copy_64 (by decide) ?_
  refine G_copyk 0 0 9 qX2_49 (Nat.le_of_ble_eq_true rfl) dX2_copy_66 hG.2.2.2.1 hF.2.2.2.1 (by omega) (by omega) (by omega) (by omega) (by omega) rfl rfl rfl ?_
  rw [hc00k (f := h (b + 3)) (fun j_ => ((hf_na (by omega)).trans ((hf_na (by omega)).trans ((hs_na (by omega)).trans ((hs_na (by omega)).trans (hs_na (by omega)))))))]
  refine G_vretZ rfl dX2_copy_69 ?_
  rfl

theorem x_btp_L (d : Nat) (τ : TT) (h : HT) (a : Nat) (hF : FL τ a) (r : Nat) (hR : ar_ τ r 13 9) (hra : r ≠ a ∧ r ≠ a + 1 ∧ r ≠ a + 4) (hn : 0 ≤ h a 0 ∧ h a 0 ≤ 9) (ho : ∀ k : Nat, (k : Int) < h a 0 → 0 ≤ h (a + 1) k ∧ h (a + 1) k < 9) : ∀ (n_ : Nat) (i : Nat), (h a 0).toNat - i < n_ → (i : Int) ≤ h a 0 → G_ mX2_bringToPlaces (d + 1) 0 0 2 [some (.inr (some a)), some (.inr (some r)), some (.inl (i : Int))] [] τ (hf_ h (a + 4) 0 i (fun j => h r (h (a + 1) j).toNat)) (Zv τ fun h' => h' = x_btp h a r) := by
  intro n_
  induction n_ with
  | zero => intro i hm_; exact absurd hm_ (Nat.not_lt_zero _)
  | succ n_ ih =>
    intro i hm_ hi
    refine G_iload_n (i := 2) dX2_bringToPlaces_2 rfl rfl ?_
    refine G_aload_n (i := 0) dX2_bringToPlaces_3 rfl rfl ?_
    refine G_getI (v := h a 0) fX2_9 rfl dX2_bringToPlaces_4 hF.1 (hf_na (by omega)) ?_
    refine G_icmp_ge (tgt := 30) dX2_bringToPlaces_7 (by decide) (by omega) (by omega) (fun c_2 => ?_) (fun c_2 => ?_)
    · refine G_aload_n (i := 0) dX2_bringToPlaces_30 rfl rfl ?_
      refine G_getR fX2_31 rfl dX2_bringToPlaces_31 hF.1 hF.2.2.2.2.2.2.2.2 ?_
      refine G_iconst dX2_bringToPlaces_34 ?_
      refine G_aload_n (i := 1) dX2_bringToPlaces_35 rfl rfl ?_
      refine G_iconst dX2_bringToPlaces_36 ?_
      refine G_aload_n (i := 0) dX2_bringToPlaces_37 rfl rfl ?_
      refine G_getI (v := h a 0) fX2_9 rfl dX2_bringToPlaces_38 hF.1 (hf_na (by omega)) ?_
      refine G_copyk 0 0 ((h a 0).toNat) qX2_49 (Nat.le_of_ble_eq_true rfl) dX2_bringToPlaces_41 hF.2.2.2.2.1 hR (by omega) (by omega) (by omega) (by omega) (by omega) rfl rfl rfl ?_
      rw [hc00k (f := (hf_ h (a + 4) 0 i (fun j => h r (h (a + 1) j).toNat)) (a + 4)) (fun j_ => rfl)]
      refine G_vretZ rfl dX2_bringToPlaces_44 ?_
      obtain rfl : i = (h a 0).toNat := by omega
      unfold x_btp
      exact hf_c (fun j _ q => hf_in ⟨Nat.zero_le _, q⟩)
    · refine G_aload_n (i := 0) dX2_bringToPlaces_10 rfl rfl ?_
      refine G_getR fX2_31 rfl dX2_bringToPlaces_11 hF.1 hF.2.2.2.2.2.2.2.2 ?_
      refine G_iload_n (i := 2) dX2_bringToPlaces_14 rfl rfl ?_
      refine G_aload_n (i := 1) dX2_bringToPlaces_15 rfl rfl ?_
      refine G_aload_n (i := 0) dX2_bringToPlaces_16 rfl rfl ?_
      refine G_getR fX2_21 rfl dX2_bringToPlaces_17 hF.1 hF.2.2.2.2.2.1 ?_
      refine G_iload_n (i := 2) dX2_bringToPlaces_20 rfl rfl ?_
      refine G_iald (v := h (a + 1) i) dX2_bringToPlaces_21 hF.2.1 (by omega) (hf_na (by omega)) ?_
      have o_ := ho i (by omega)
      refine G_iald (v := h r ((h (a + 1) i).toNat)) dX2_bringToPlaces_22 hR (by omega) (hf_na (by omega)) ?_
      refine G_iastk i dX2_bringToPlaces_23 hF.2.2.2.2.1 (by omega) rfl ?_
      refine G_iinc (ls' := [some (.inr (some a)), some (.inr (some r)), some (.inl ((i : Int) + 1))]) dX2_bringToPlaces_24 (by decide) rfl rfl ?_
      refine G_goto (tgt := 2) dX2_bringToPlaces_27 (by decide) ?_
      rw [hf_snoc (Nat.zero_le _) rfl]
      exact ih (i + 1) (by omega) (by omega)

theorem x_bringToPlaces (d : Nat) (τ : TT) (h : HT) (a : Nat) (hF : FL τ a) (r : Nat) (hR : ar_ τ r 13 9) (hra : r ≠ a ∧ r ≠ a + 1 ∧ r ≠ a + 4) (hn : 0 ≤ h a 0 ∧ h a 0 ≤ 9) (ho : ∀ k : Nat, (k : Int) < h a 0 → 0 ≤ h (a + 1) k ∧ h (a + 1) k < 9) : S_ mX2_bringToPlaces (d + 1) 0 0 [.inr (some a), .inr (some r)] τ h (Zv τ fun h' => h' = x_btp h a r) := by
  refine S_go (k := 1) (ls := [some (.inr (some a)), some (.inr (some r)), none]) (by decide) rfl (Nat.le_of_ble_eq_true rfl) rfl ?_
  refine G_iconst dX2_bringToPlaces_0 ?_
  refine G_istore_n (i := 2) (ls' := [some (.inr (some a)), some (.inr (some r)), some (.inl 0)]) dX2_bringToPlaces_1 rfl (by decide) rfl ?_
  have := x_btp_L d τ h a hF r hR hra hn ho _ 0 (Nat.lt_succ_self _) (by omega)
  rw [hf_nil] at this
  exact this

theorem x_girthNow (d : Nat) (τ : TT) (h : HT) (a : Nat) (hF : FL τ a) (hr : 0 ≤ h a 2 ∧ h a 2 ≤ 1000) : S_ mX2_girthNow d 0 0 [.inr (some a)] τ h (Zi τ fun r h' => r = 10 + (h a 2).tdiv 3 ∧ h' = h) := by
  refine S_go (k := 0) (ls := [some (.inr (some a))]) (by decide) rfl (Nat.le_of_ble_eq_true rfl) rfl ?_
  refine G_bipush dX2_girthNow_0 (by decide) ?_
  refine G_aload_n (i := 0) dX2_girthNow_2 rfl rfl ?_
  refine G_getI (v := h a 2) fX2_18 rfl dX2_girthNow_3 hF.1 rfl ?_
  refine G_iconst dX2_girthNow_6 ?_
  refine G_idiv dX2_girthNow_7 (by omega) (by decide) ?_
  refine G_iadd dX2_girthNow_8 ?_
  refine G_iretZ rfl dX2_girthNow_9 ?_
  exact ⟨rfl, rfl⟩

abbrev t_len (n : Int) (T : TR) : Prop := ∀ p : Nat, p < n.toNat → 10 + T.2.1.tdiv 3 ≤ T.2.2.2.1 p
def t_tp (n : Int) (T : TR) (p w : Int) : Int × TR := match t_pass n T p w with
  | none => (-3, T)
  | some T' => if 300 ≤ T.1 then (-4, T) else (0, (T.1 + 1, T'.2))
def t_tw (n : Int) (T : TR) (w : Int) : Int × TR := if t_len n T then (if 300 ≤ T.1 ∨ 100 ≤ T.2.1 then (-4, T) else (0, (T.1 + 1, T.2.1 + 1, (fun p => T.2.2.1 (f_rot n.toNat w p)), (fun p => T.2.2.2.1 p - (10 + T.2.1.tdiv 3)), T.2.2.2.2))) else (-3, T)
def t_tk (n : Int) (T : TR) (s : Int) : Int × TR := if 100 ≤ s then t_tw n T (s - 100) else t_tp n T (s.tdiv 10) (s.tmod 10)

theorem x_tp_H {h : HT} {a : Nat} {n p w o q : Int} {T : TR} (f : FT n h a T) (hp : (p.toNat : Int) < n) (hq : (q.toNat : Int) < n) (hab : (h (a + 1) p.toNat).toNat ≠ (h (a + 1) q.toNat).toNat) (ho : (w = 0 ∧ o = 1) ∨ (w ≠ 0 ∧ o = 2)) : FT n (hs_ (hs_ (hs_ (hs_ (hs_ (hs_ h a 1 (h a 1 + 1)) (a + 2) (h (a + 1) p.toNat).toNat (h (a + 2) (h (a + 1) p.toNat).toNat - o)) (a + 2) (h (a + 1) q.toNat).toNat (hs_ (hs_ h a 1 (h a 1 + 1)) (a + 2) (h (a + 1) p.toNat).toNat (h (a + 2) (h (a + 1) p.toNat).toNat - o) (a + 2) (h (a + 1) q.toNat).toNat - (3 - o))) (a + 1) p.toNat (h (a + 1) q.toNat)) (a + 1) q.toNat (h (a + 1) p.toNat)) (a + 3) p.toNat (w + 1)) a (T.1 + 1, T.2.1, t_sw T.2.2.1 p.toNat q.toNat, (fun r => if r = (if w = 0 then h (a + 1) p.toNat else h (a + 1) q.toNat).toNat then T.2.2.2.1 r - 1 else if r = (if w = 0 then h (a + 1) q.toNat else h (a + 1) p.toNat).toNat then T.2.2.2.1 r - 2 else T.2.2.2.1 r), (fun k => if k = p.toNat then w + 1 else T.2.2.2.2 k)) := by
  obtain ⟨f0, f1, f2, f3⟩ := f
  have t1 := (f3 _ hp).1
  have t2 := (f3 _ hq).1
  generalize h (a + 1) p.toNat = A at *
  generalize h (a + 1) q.toNat = B at *
  refine ⟨?_, ?_, ?_, fun k hk => ⟨?_, ?_, ?_⟩⟩
  · rw [hs_na (by omega), hs_na (by omega), hs_na (by omega), hs_na (by omega), hs_na (by omega), hs_ni (by decide)]; exact f0
  · rw [hs_na (by omega), hs_na (by omega), hs_na (by omega), hs_na (by omega), hs_na (by omega), hs_eq, f1]
  · rw [hs_na (by omega), hs_na (by omega), hs_na (by omega), hs_na (by omega), hs_na (by omega), hs_ni (by decide)]; exact f2
  · rw [hs_na (by omega)]
    unfold t_sw
    by_cases z : k = q.toNat
    · subst z; rw [hs_eq]; show A = if _ then _ else _; rw [if_pos rfl]; exact t1
    · rw [hs_ni z]
      show _ = if k = q.toNat then _ else _
      rw [if_neg z]
      by_cases y : k = p.toNat
      · subst y; rw [hs_eq, if_pos rfl]; exact t2
      · rw [hs_ni y, if_neg y, hs_na (by omega), hs_na (by omega), hs_na (by omega)]; exact (f3 k hk).1
  · have u := (f3 k hk).2.1
    rw [hs_na (by omega), hs_na (by omega), hs_na (by omega)]
    rw [show hs_ (hs_ h a 1 (h a 1 + 1)) (a + 2) A.toNat (h (a + 2) A.toNat - o) (a + 2) B.toNat = h (a + 2) B.toNat from by rw [hs_ni (Ne.symm hab), hs_na (by omega)]]
    show _ = if k = _ then _ else _
    by_cases z : k = B.toNat
    · subst z
      rw [hs_eq, u]
      rcases ho with ⟨e1, e2⟩ | ⟨e1, e2⟩
      · rw [if_pos e1, if_pos e1, if_neg (Ne.symm hab), if_pos rfl]; omega
      · rw [if_neg e1, if_neg e1, if_pos rfl]; omega
    · rw [hs_ni z]
      by_cases y : k = A.toNat
      · subst y
        rw [hs_eq, u]
        rcases ho with ⟨e1, e2⟩ | ⟨e1, e2⟩
        · rw [if_pos e1, if_pos e1, if_pos rfl]; omega
        · rw [if_neg e1, if_neg e1, if_neg hab, if_pos rfl]; omega
      · rw [hs_ni y, hs_na (by omega), u]
        rcases ho with ⟨e1, e2⟩ | ⟨e1, e2⟩
        · rw [if_pos e1, if_pos e1, if_neg y, if_neg z]
        · rw [if_neg e1, if_neg e1, if_neg z, if_neg y]
  · show _ = if k = p.toNat then _ else _
    by_cases y : k = p.toNat
    · rw [if_pos y, y, hs_eq]
    · rw [if_neg y, hs_ni y, hs_na (by omega), hs_na (by omega), hs_na (by omega), hs_na (by omega), hs_na (by omega)]; exact (f3 k hk).2.2
theorem x_tp_fr {h : HT} {a i1 i2 i3 i4 i5 i6 b j : Nat} {v1 v2 v3 v4 v5 v6 : Int} (z : ¬ (a ≤ b ∧ b ≤ a + 4)) : hs_ (hs_ (hs_ (hs_ (hs_ (hs_ h a i1 v1) (a + 2) i2 v2) (a + 2) i3 v3) (a + 1) i4 v4) (a + 1) i5 v5) (a + 3) i6 v6 b j = h b j := by
  rw [hs_na (by omega), hs_na (by omega), hs_na (by omega), hs_na (by omega), hs_na (by omega), hs_na (by omega)]
theorem x_tp_3 {n p w o q A B : Int} {T : TR} (hp : 0 ≤ p ∧ p < n) (ho : (w = 0 ∧ o = 1) ∨ (w ≠ 0 ∧ o = 2)) (eq_ : q = f_aft n p) (e1 : A = T.2.2.1 p.toNat) (e2 : B = T.2.2.1 q.toNat) (hl : T.2.2.2.1 A.toNat < o ∨ T.2.2.2.1 B.toNat < 3 - o) : t_tp n T p w = (-3, T) := by
  have et : t_pass n T p w = none := by
    unfold t_pass
    rw [if_neg (by omega)]
    simp only
    rw [← eq_, ← e1, ← e2]
    rcases ho with ⟨h1, h2⟩ | ⟨h1, h2⟩
    · rw [if_pos (by rw [if_pos h1, if_pos h1]; omega)]
    · rw [if_pos (by rw [if_neg h1, if_neg h1]; omega)]
  unfold t_tp
  rw [et]
theorem x_tp_0 {n p w o q A B : Int} {T : TR} (hp : 0 ≤ p ∧ p < n) (ho : (w = 0 ∧ o = 1) ∨ (w ≠ 0 ∧ o = 2)) (eq_ : q = f_aft n p) (e1 : A = T.2.2.1 p.toNat) (e2 : B = T.2.2.1 q.toNat) (hl : o ≤ T.2.2.2.1 A.toNat ∧ 3 - o ≤ T.2.2.2.1 B.toNat) : (300 ≤ T.1 → t_tp n T p w = (-4, T)) ∧ (T.1 < 300 → t_tp n T p w = (0, (T.1 + 1, T.2.1, t_sw T.2.2.1 p.toNat q.toNat, (fun r => if r = (if w = 0 then A else B).toNat then T.2.2.2.1 r - 1 else if r = (if w = 0 then B else A).toNat then T.2.2.2.1 r - 2 else T.2.2.2.1 r), (fun k => if k = p.toNat then w + 1 else T.2.2.2.2 k)))) := by
  have et : t_pass n T p w = some (T.1, T.2.1, t_sw T.2.2.1 p.toNat q.toNat, (fun r => if r = (if w = 0 then A else B).toNat then T.2.2.2.1 r - 1 else if r = (if w = 0 then B else A).toNat then T.2.2.2.1 r - 2 else T.2.2.2.1 r), (fun k => if k = p.toNat then w + 1 else T.2.2.2.2 k)) := by
    unfold t_pass
    rw [if_neg (by omega)]
    simp only
    rw [← eq_, ← e1, ← e2]
    rcases ho with ⟨h1, h2⟩ | ⟨h1, h2⟩
    · rw [if_neg (by rw [if_pos h1, if_pos h1]; omega)]
    · rw [if_neg (by rw [if_neg h1, if_neg h1]; omega)]
  unfold t_tp
  rw [et]
  exact ⟨fun z => if_pos z, fun z => if_neg (by omega)⟩
theorem x_takePass (d : Nat) (τ : TT) (h : HT) (a : Nat) (hF : FL τ a) (n : Int) (T : TR) (hn : 3 ≤ n ∧ n ≤ 9) (ft : FT n h a T) (ok : t_ok n T) (p w : Int) (hp : 0 ≤ p ∧ p ≤ 1000) (hw : 0 ≤ w ∧ w ≤ 9) : S_ mX2_takePass (d + 1) 0 0 [.inr (some a), .inl p, .inl w] τ h (Zi τ fun v h' => v = (t_tp n T p w).1 ∧ FT n h' a (t_tp n T p w).2 ∧ FRl a h h') := by
  obtain ⟨f0, f1, f2, f3⟩ := ft
  obtain ⟨k1, k2, k3, k4, k5, k6⟩ := ok
  refine S_go (k := 5) (ls := [some (.inr (some a)), some (.inl p), some (.inl w), none, none, none, none, none]) (by decide) rfl (Nat.le_of_ble_eq_true rfl) rfl ?_
  refine G_iload_n (i := 1) dX2_takePass_0 rfl rfl ?_
  refine G_if_lt (tgt := 12) dX2_takePass_1 (by decide) (by omega) (fun c_1 => ?_) (fun c_1 => ?_)
  · refine G_bipush dX2_takePass_12 (by decide) ?_
    refine G_iretZ rfl dX2_takePass_14 ?_
    have et : t_tp n T p w = (-3, T) := by unfold t_tp t_pass; rw [if_pos (by omega)]
    rw [et]
    exact ⟨rfl, ⟨f0, f1, f2, f3⟩, FRl.rf⟩
  · refine G_iload_n (i := 1) dX2_takePass_4 rfl rfl ?_
    refine G_aload_n (i := 0) dX2_takePass_5 rfl rfl ?_
    refine G_getI (v := h a 0) fX2_9 rfl dX2_takePass_6 hF.1 rfl ?_
    refine G_icmp_lt (tgt := 15) dX2_takePass_9 (by decide) (by omega) (by omega) (fun c_2 => ?_) (fun c_2 => ?_)
    · refine G_iload_n (i := 1) dX2_takePass_15 rfl rfl ?_
      refine G_aload_n (i := 0) dX2_takePass_16 rfl rfl ?_
      refine G_getI (v := h a 0) fX2_9 rfl dX2_takePass_17 hF.1 rfl ?_
      refine G_cNq (as := [.inl p, .inl (h a 0)]) qX2_63 (x_behind d τ h p (h a 0) (by omega) (by omega)) rfl rfl (Nat.le_of_ble_eq_true rfl) dX2_takePass_20 ?_
      refine G_istore_n (i := 3) (ls' := [some (.inr (some a)), some (.inl p), some (.inl w), some (.inl (x_bh (h a 0) p)), none, none, none, none]) dX2_takePass_23 rfl (by decide) rfl ?_
      have hq := x_bh_r (n := h a 0) (p := p) (by omega)
      have t1 := f3 p.toNat (by omega)
      have t2 := f3 (x_bh (h a 0) p).toNat (by omega)
      have o1 := k3 p.toNat (by omega)
      have o2 := k3 (x_bh (h a 0) p).toNat (by omega)
      refine G_aload_n (i := 0) dX2_takePass_24 rfl rfl ?_
      refine G_getR fX2_21 rfl dX2_takePass_25 hF.1 hF.2.2.2.2.2.1 ?_
      refine G_iload_n (i := 1) dX2_takePass_28 rfl rfl ?_
      refine G_iald (v := h (a + 1) ((p).toNat)) dX2_takePass_29 hF.2.1 (by omega) rfl ?_
      refine G_istore (ls' := [some (.inr (some a)), some (.inl p), some (.inl w), some (.inl (x_bh (h a 0) p)), some (.inl (h (a + 1) ((p).toNat))), none, none, none]) dX2_takePass_30 (by decide) rfl ?_
      refine G_aload_n (i := 0) dX2_takePass_32 rfl rfl ?_
      refine G_getR fX2_21 rfl dX2_takePass_33 hF.1 hF.2.2.2.2.2.1 ?_
      refine G_iload_n (i := 3) dX2_takePass_36 rfl rfl ?_
      refine G_iald (v := h (a + 1) ((x_bh (h a 0) p).toNat)) dX2_takePass_37 hF.2.1 (by omega) rfl ?_
      refine G_istore (ls' := [some (.inr (some a)), some (.inl p), some (.inl w), some (.inl (x_bh (h a 0) p)), some (.inl (h (a + 1) ((p).toNat))), some (.inl (h (a + 1) ((x_bh (h a 0) p).toNat))), none, none]) dX2_takePass_38 (by decide) rfl ?_
      refine G_iload_n (i := 2) dX2_takePass_40 rfl rfl ?_
      suffices K_5 : ∀ x_4 : Int, x_4 = (if w = 0 then 1 else 2) → G_ mX2_takePass (d + 1) 0 0 49 [some (.inr (some a)), some (.inl p), some (.inl w), some (.inl (x_bh (h a 0) p)), some (.inl (h (a + 1) ((p).toNat))), some (.inl (h (a + 1) ((x_bh (h a 0) p).toNat))), none, none] [.inl x_4] τ h (Zi τ fun v h' => v = (t_tp n T p w).1 ∧ FT n h' a (t_tp n T p w).2 ∧ FRl a h h') by
        refine G_if_ne (tgt := 48) dX2_takePass_41 (by decide) (by omega) (fun c_3 => ?_) (fun c_3 => ?_)
        · refine G_iconst dX2_takePass_48 ?_
          exact K_5 _ (if_neg c_3).symm
        · refine G_iconst dX2_takePass_44 ?_
          refine G_goto (tgt := 49) dX2_takePass_45 (by decide) ?_
          exact K_5 _ (if_pos c_3).symm
      intro x_4 ex_4
      have hx : (w = 0 ∧ x_4 = 1) ∨ (w ≠ 0 ∧ x_4 = 2) := by omega
      refine G_istore (ls' := [some (.inr (some a)), some (.inl p), some (.inl w), some (.inl (x_bh (h a 0) p)), some (.inl (h (a + 1) ((p).toNat))), some (.inl (h (a + 1) ((x_bh (h a 0) p).toNat))), some (.inl x_4), none]) dX2_takePass_49 (by decide) rfl ?_
      refine G_iconst dX2_takePass_51 ?_
      refine G_iload dX2_takePass_52 rfl ?_
      refine G_isub dX2_takePass_54 ?_
      refine G_istore (ls' := [some (.inr (some a)), some (.inl p), some (.inl w), some (.inl (x_bh (h a 0) p)), some (.inl (h (a + 1) ((p).toNat))), some (.inl (h (a + 1) ((x_bh (h a 0) p).toNat))), some (.inl x_4), some (.inl (3 - x_4))]) dX2_takePass_55 (by decide) rfl ?_
      refine G_aload_n (i := 0) dX2_takePass_57 rfl rfl ?_
      refine G_getR fX2_25 rfl dX2_takePass_58 hF.1 hF.2.2.2.2.2.2.1 ?_
      refine G_iload dX2_takePass_61 rfl ?_
      refine G_iald (v := h (a + 2) ((h (a + 1) ((p).toNat)).toNat)) dX2_takePass_63 hF.2.2.1 (by omega) rfl ?_
      have u63 := f3 ((h (a + 1) ((p).toNat)).toNat) (by omega)
      have w63 := k5 ((h (a + 1) ((p).toNat)).toNat) (by omega)
      refine G_iload dX2_takePass_64 rfl ?_
      refine G_icmp_lt (tgt := 81) dX2_takePass_66 (by decide) (by omega) (by omega) (fun c_6 => ?_) (fun c_6 => ?_)
      · refine G_bipush dX2_takePass_81 (by decide) ?_
        refine G_iretZ rfl dX2_takePass_83 ?_
        have eq_ : (x_bh (h a 0) p) = f_aft n p := by rw [f0]; exact x_bh_e (by omega)
        have la := (f3 (h (a + 1) p.toNat).toNat (by omega)).2.1
        have lb := (f3 (h (a + 1) (x_bh (h a 0) p).toNat).toNat (by omega)).2.1
        rw [x_tp_3 (n := n) (T := T) (p := p) (w := w) (o := x_4) (q := (x_bh (h a 0) p)) (by omega) (by omega) eq_ t1.1 t2.1 (by rw [← la, ← lb]; omega)]
        exact ⟨rfl, ⟨f0, f1, f2, f3⟩, FRl.rf⟩
      · refine G_aload_n (i := 0) dX2_takePass_69 rfl rfl ?_
        refine G_getR fX2_25 rfl dX2_takePass_70 hF.1 hF.2.2.2.2.2.2.1 ?_
        refine G_iload dX2_takePass_73 rfl ?_
        refine G_iald (v := h (a + 2) ((h (a + 1) ((x_bh (h a 0) p).toNat)).toNat)) dX2_takePass_75 hF.2.2.1 (by omega) rfl ?_
        have u75 := f3 ((h (a + 1) ((x_bh (h a 0) p).toNat)).toNat) (by omega)
        have w75 := k5 ((h (a + 1) ((x_bh (h a 0) p).toNat)).toNat) (by omega)
        refine G_iload dX2_takePass_76 rfl ?_
        refine G_icmp_ge (tgt := 84) dX2_takePass_78 (by decide) (by omega) (by omega) (fun c_7 => ?_) (fun c_7 => ?_)
        · refine G_aload_n (i := 0) dX2_takePass_84 rfl rfl ?_
          refine G_getI (v := h a 1) fX2_15 rfl dX2_takePass_85 hF.1 rfl ?_
          refine G_sipush dX2_takePass_88 (by decide) ?_
          refine G_icmp_lt (tgt := 97) dX2_takePass_91 (by decide) (by omega) (by decide) (fun c_8 => ?_) (fun c_8 => ?_)
          · refine G_aload_n (i := 0) dX2_takePass_97 rfl rfl ?_
            refine G_dup dX2_takePass_98 ?_
            refine G_getI (v := h a 1) fX2_15 rfl dX2_takePass_99 hF.1 rfl ?_
            refine G_iconst dX2_takePass_102 ?_
            refine G_iadd dX2_takePass_103 ?_
            refine G_putI fX2_15 dX2_takePass_104 hF.1 ?_
            refine G_aload_n (i := 0) dX2_takePass_107 rfl rfl ?_
            refine G_getR fX2_25 rfl dX2_takePass_108 hF.1 hF.2.2.2.2.2.2.1 ?_
            refine G_iload dX2_takePass_111 rfl ?_
            refine G_dup2 dX2_takePass_113 ?_
            refine G_iald (v := h (a + 2) ((h (a + 1) ((p).toNat)).toNat)) dX2_takePass_114 hF.2.2.1 (by omega) (hs_na (by omega)) ?_
            have u114 := f3 ((h (a + 1) ((p).toNat)).toNat) (by omega)
            have w114 := k5 ((h (a + 1) ((p).toNat)).toNat) (by omega)
            refine G_iload dX2_takePass_115 rfl ?_
            refine G_isub dX2_takePass_117 ?_
            refine G_iastk ((h (a + 1) ((p).toNat)).toNat) dX2_takePass_118 hF.2.2.1 (by omega) rfl ?_
            refine G_aload_n (i := 0) dX2_takePass_119 rfl rfl ?_
            refine G_getR fX2_25 rfl dX2_takePass_120 hF.1 hF.2.2.2.2.2.2.1 ?_
            refine G_iload dX2_takePass_123 rfl ?_
            refine G_dup2 dX2_takePass_125 ?_
            refine G_iald (v := (hs_ (hs_ h a 1 ((h a 1) + 1)) (a + 2) ((h (a + 1) ((p).toNat)).toNat) ((h (a + 2) ((h (a + 1) ((p).toNat)).toNat)) - x_4)) (a + 2) ((h (a + 1) ((x_bh (h a 0) p).toNat)).toNat)) dX2_takePass_126 hF.2.2.1 (by omega) rfl ?_
            have u126 := f3 ((h (a + 1) ((x_bh (h a 0) p).toNat)).toNat) (by omega)
            have w126 := k5 ((h (a + 1) ((x_bh (h a 0) p).toNat)).toNat) (by omega)
            refine G_iload dX2_takePass_127 rfl ?_
            refine G_isub dX2_takePass_129 ?_
            refine G_iastk ((h (a + 1) ((x_bh (h a 0) p).toNat)).toNat) dX2_takePass_130 hF.2.2.1 (by omega) rfl ?_
            refine G_aload_n (i := 0) dX2_takePass_131 rfl rfl ?_
            refine G_getR fX2_21 rfl dX2_takePass_132 hF.1 hF.2.2.2.2.2.1 ?_
            refine G_iload_n (i := 1) dX2_takePass_135 rfl rfl ?_
            refine G_iload dX2_takePass_136 rfl ?_
            refine G_iastk ((p).toNat) dX2_takePass_138 hF.2.1 (by omega) rfl ?_
            refine G_aload_n (i := 0) dX2_takePass_139 rfl rfl ?_
            refine G_getR fX2_21 rfl dX2_takePass_140 hF.1 hF.2.2.2.2.2.1 ?_
            refine G_iload_n (i := 3) dX2_takePass_143 rfl rfl ?_
            refine G_iload dX2_takePass_144 rfl ?_
            refine G_iastk ((x_bh (h a 0) p).toNat) dX2_takePass_146 hF.2.1 (by omega) rfl ?_
            refine G_aload_n (i := 0) dX2_takePass_147 rfl rfl ?_
            refine G_getR fX2_28 rfl dX2_takePass_148 hF.1 hF.2.2.2.2.2.2.2.1 ?_
            refine G_iload_n (i := 1) dX2_takePass_151 rfl rfl ?_
            refine G_iload_n (i := 2) dX2_takePass_152 rfl rfl ?_
            refine G_iconst dX2_takePass_153 ?_
            refine G_iadd dX2_takePass_154 ?_
            refine G_iastk ((p).toNat) dX2_takePass_155 hF.2.2.2.1 (by omega) rfl ?_
            refine G_iconst dX2_takePass_156 ?_
            refine G_iretZ rfl dX2_takePass_157 ?_
            have eq_ : (x_bh (h a 0) p) = f_aft n p := by rw [f0]; exact x_bh_e (by omega)
            have la := (f3 (h (a + 1) p.toNat).toNat (by omega)).2.1
            have lb := (f3 (h (a + 1) (x_bh (h a 0) p).toNat).toNat (by omega)).2.1
            have et := x_tp_0 (n := n) (T := T) (p := p) (w := w) (o := x_4) (q := (x_bh (h a 0) p)) (A := (h (a + 1) p.toNat)) (B := (h (a + 1) (x_bh (h a 0) p).toNat)) (by omega) (by omega) eq_ t1.1 t2.1 (by rw [← la, ← lb]; omega)
            rw [et.2 (by omega)]
            have hi := k4 p.toNat (x_bh (h a 0) p).toNat (by omega) (by omega)
            rw [← t1.1, ← t2.1] at hi
            have hpq : p ≠ (x_bh (h a 0) p) := by rw [eq_]; unfold f_aft; split <;> omega
            have hab : (h (a + 1) p.toNat).toNat ≠ (h (a + 1) (x_bh (h a 0) p).toNat).toNat := by omega
            exact ⟨rfl, x_tp_H ⟨f0, f1, f2, f3⟩ (by omega) (by omega) hab hx, fun b j z => x_tp_fr z⟩
          · refine G_bipush dX2_takePass_94 (by decide) ?_
            refine G_iretZ rfl dX2_takePass_96 ?_
            have eq_ : (x_bh (h a 0) p) = f_aft n p := by rw [f0]; exact x_bh_e (by omega)
            have la := (f3 (h (a + 1) p.toNat).toNat (by omega)).2.1
            have lb := (f3 (h (a + 1) (x_bh (h a 0) p).toNat).toNat (by omega)).2.1
            have et := x_tp_0 (n := n) (T := T) (p := p) (w := w) (o := x_4) (q := (x_bh (h a 0) p)) (A := (h (a + 1) p.toNat)) (B := (h (a + 1) (x_bh (h a 0) p).toNat)) (by omega) (by omega) eq_ t1.1 t2.1 (by rw [← la, ← lb]; omega)
            rw [et.1 (by omega)]
            exact ⟨rfl, ⟨f0, f1, f2, f3⟩, FRl.rf⟩
        · refine G_bipush dX2_takePass_81 (by decide) ?_
          refine G_iretZ rfl dX2_takePass_83 ?_
          have eq_ : (x_bh (h a 0) p) = f_aft n p := by rw [f0]; exact x_bh_e (by omega)
          have la := (f3 (h (a + 1) p.toNat).toNat (by omega)).2.1
          have lb := (f3 (h (a + 1) (x_bh (h a 0) p).toNat).toNat (by omega)).2.1
          rw [x_tp_3 (n := n) (T := T) (p := p) (w := w) (o := x_4) (q := (x_bh (h a 0) p)) (by omega) (by omega) eq_ t1.1 t2.1 (by rw [← la, ← lb]; omega)]
          exact ⟨rfl, ⟨f0, f1, f2, f3⟩, FRl.rf⟩
    · refine G_bipush dX2_takePass_12 (by decide) ?_
      refine G_iretZ rfl dX2_takePass_14 ?_
      have et : t_tp n T p w = (-3, T) := by unfold t_tp t_pass; rw [if_pos (by omega)]
      rw [et]
      exact ⟨rfl, ⟨f0, f1, f2, f3⟩, FRl.rf⟩

def x_tw (h : HT) (a n : Nat) (w G : Int) (i : Nat) : HT := fun b j => if b = a + 2 ∧ j < i then h (a + 2) j - G else if b = a + 4 ∧ (if w = 0 then (1 ≤ j ∧ j ≤ i ∧ j < n) ∨ (j = 0 ∧ i = n) else j < i) then h (a + 1) (f_rot n w j) else h b j
theorem x_tw_o {h : HT} {a n i b j : Nat} {w G : Int} (hb : b ≠ a + 2 ∧ b ≠ a + 4) : x_tw h a n w G i b j = h b j := by
  unfold x_tw; rw [if_neg (fun q => hb.1 q.1), if_neg (fun q => hb.2 q.1)]
theorem x_tw_z {h : HT} {a n : Nat} {w G : Int} (hn : 0 < n) : x_tw h a n w G 0 = h := by
  funext b j
  unfold x_tw
  rw [if_neg (fun q => absurd q.2 (Nat.not_lt_zero _)), if_neg]
  rintro ⟨-, q⟩
  split at q <;> omega
theorem x_tw_1 {h : HT} {a n i k : Nat} {G : Int} (hi : i < n) (hk : k = if i + 1 < n then i + 1 else 0) : hs_ (hs_ (x_tw h a n 0 G i) (a + 2) i (x_tw h a n 0 G i (a + 2) i - G)) (a + 4) k (h (a + 1) i) = x_tw h a n 0 G (i + 1) := by
  funext b j
  have hv : x_tw h a n 0 G i (a + 2) i = h (a + 2) i := by
    unfold x_tw; rw [if_neg (fun q => absurd q.2 (Nat.lt_irrefl _)), if_neg (fun q => absurd q.1 (by omega))]
  rw [hv]
  unfold hs_
  by_cases h1 : b = a + 4 ∧ j = k
  · rw [if_pos h1]
    obtain ⟨rfl, rfl⟩ := h1
    unfold x_tw
    rw [if_neg (fun q => absurd q.1 (by omega)), if_pos ⟨rfl, by rw [if_pos rfl]; split at hk <;> omega⟩]
    unfold f_rot
    rw [if_pos rfl]
    split at hk
    · rw [if_neg (by omega)]; congr 1; omega
    · rw [if_pos (by omega)]; congr 1; omega
  · rw [if_neg h1]
    by_cases h2 : b = a + 2 ∧ j = i
    · rw [if_pos h2]
      obtain ⟨rfl, rfl⟩ := h2
      unfold x_tw
      rw [if_pos ⟨rfl, by omega⟩]
    · rw [if_neg h2]
      unfold x_tw
      by_cases h3 : b = a + 2
      · subst h3
        by_cases h4 : j < i
        · rw [if_pos ⟨rfl, h4⟩, if_pos ⟨rfl, by omega⟩]
        · rw [if_neg (fun q => h4 q.2), if_neg (fun q => absurd q.1 (by omega)), if_neg (fun q => h2 ⟨rfl, by omega⟩), if_neg (fun q => absurd q.1 (by omega))]
      · rw [if_neg (show ¬ (b = a + 2 ∧ j < i) from fun q => h3 q.1), if_neg (show ¬ (b = a + 2 ∧ j < i + 1) from fun q => h3 q.1)]
        by_cases h5 : b = a + 4
        · subst h5
          have h6 : j ≠ k := fun e => h1 ⟨rfl, e⟩
          simp only [true_and, if_true]
          by_cases h7 : (1 ≤ j ∧ j ≤ i ∧ j < n) ∨ (j = 0 ∧ i = n)
          · rw [if_pos h7, if_pos (by omega)]
          · rw [if_neg h7, if_neg (by split at hk <;> omega)]
        · rw [if_neg (fun q => h5 q.1), if_neg (fun q => h5 q.1)]
theorem x_tw_2 {h : HT} {a n i k : Nat} {w G : Int} (hw : w ≠ 0) (hi : i < n) (hk : k = if i + 1 < n then i + 1 else 0) : hs_ (hs_ (x_tw h a n w G i) (a + 2) i (x_tw h a n w G i (a + 2) i - G)) (a + 4) i (h (a + 1) k) = x_tw h a n w G (i + 1) := by
  funext b j
  have hv : x_tw h a n w G i (a + 2) i = h (a + 2) i := by
    unfold x_tw; rw [if_neg (fun q => absurd q.2 (Nat.lt_irrefl _)), if_neg (fun q => absurd q.1 (by omega))]
  rw [hv]
  unfold hs_
  by_cases h1 : b = a + 4 ∧ j = i
  · rw [if_pos h1]
    obtain ⟨rfl, rfl⟩ := h1
    unfold x_tw
    rw [if_neg (fun q => absurd q.1 (by omega)), if_pos ⟨rfl, by rw [if_neg hw]; omega⟩]
    unfold f_rot
    rw [if_neg hw]
    split at hk
    · rw [if_neg (by omega)]; congr 1
    · rw [if_pos (by omega)]; congr 1
  · rw [if_neg h1]
    by_cases h2 : b = a + 2 ∧ j = i
    · rw [if_pos h2]
      obtain ⟨rfl, rfl⟩ := h2
      unfold x_tw
      rw [if_pos ⟨rfl, by omega⟩]
    · rw [if_neg h2]
      unfold x_tw
      by_cases h3 : b = a + 2
      · subst h3
        by_cases h4 : j < i
        · rw [if_pos ⟨rfl, h4⟩, if_pos ⟨rfl, by omega⟩]
        · rw [if_neg (fun q => h4 q.2), if_neg (fun q => absurd q.1 (by omega)), if_neg (fun q => h2 ⟨rfl, by omega⟩), if_neg (fun q => absurd q.1 (by omega))]
      · rw [if_neg (show ¬ (b = a + 2 ∧ j < i) from fun q => h3 q.1), if_neg (show ¬ (b = a + 2 ∧ j < i + 1) from fun q => h3 q.1)]
        by_cases h5 : b = a + 4
        · subst h5
          have h6 : j ≠ i := fun e => h1 ⟨rfl, e⟩
          simp only [true_and, if_neg hw]
          by_cases h7 : j < i
          · rw [if_pos h7, if_pos (by omega)]
          · rw [if_neg h7, if_neg (by omega)]
        · rw [if_neg (fun q => h5 q.1), if_neg (fun q => h5 q.1)]
theorem x_tw_4 {h : HT} {a n j : Nat} {w G : Int} (hj : j < n) : x_tw h a n w G n (a + 4) j = h (a + 1) (f_rot n w j) := by
  unfold x_tw
  rw [if_neg (fun q => absurd q.1 (by omega)), if_pos ⟨rfl, by split <;> omega⟩]
theorem x_tw_2a {h : HT} {a n j : Nat} {w G : Int} (hj : j < n) : x_tw h a n w G n (a + 2) j = h (a + 2) j - G := by
  unfold x_tw
  rw [if_pos ⟨rfl, hj⟩]
theorem x_takeWalk_L2 (d : Nat) (τ : TT) (a : Nat) (hF : FL τ a) (g : HT) (n : Nat) (o w G : Int) (hn : g a 0 = n ∧ 3 ≤ n ∧ n ≤ 9) (ho : (o = 1 ∧ w = 0) ∨ (o = 0 ∧ w = 1)) : ∀ (n_ : Nat) (i : Nat), n - i < n_ → i ≤ n → G_ mX2_takeWalk (d + 1) 0 0 78 [some (.inr (some a)), some (.inl o), some (.inl G), some (.inl (i : Int))] [] τ (x_tw g a n w G i) (Zi τ fun v h' => v = 0 ∧ h' = hf_ (x_tw g a n w G n) (a + 1) 0 n (fun j => x_tw g a n w G n (a + 4) j)) := by
  intro n_
  induction n_ with
  | zero => intro i hm_; exact absurd hm_ (Nat.not_lt_zero _)
  | succ n_ ih =>
    intro i hm_ hi
    refine G_iload_n (i := 3) dX2_takeWalk_78 rfl rfl ?_
    refine G_aload_n (i := 0) dX2_takeWalk_79 rfl rfl ?_
    refine G_getI (v := g a 0) fX2_9 rfl dX2_takeWalk_80 hF.1 (x_tw_o (by omega)) ?_
    refine G_icmp_ge (tgt := 147) dX2_takeWalk_83 (by decide) (by omega) (by omega) (fun c_1 => ?_) (fun c_1 => ?_)
    · refine G_aload_n (i := 0) dX2_takeWalk_147 rfl rfl ?_
      refine G_getR fX2_31 rfl dX2_takeWalk_148 hF.1 hF.2.2.2.2.2.2.2.2 ?_
      refine G_iconst dX2_takeWalk_151 ?_
      refine G_aload_n (i := 0) dX2_takeWalk_152 rfl rfl ?_
      refine G_getR fX2_21 rfl dX2_takeWalk_153 hF.1 hF.2.2.2.2.2.1 ?_
      refine G_iconst dX2_takeWalk_156 ?_
      refine G_aload_n (i := 0) dX2_takeWalk_157 rfl rfl ?_
      refine G_getI (v := g a 0) fX2_9 rfl dX2_takeWalk_158 hF.1 (x_tw_o (by omega)) ?_
      refine G_copyk 0 0 ((g a 0).toNat) qX2_49 (Nat.le_of_ble_eq_true rfl) dX2_takeWalk_161 hF.2.2.2.2.1 hF.2.1 (by omega) (by omega) (by omega) (by omega) (by omega) rfl rfl rfl ?_
      rw [hc00k (f := (x_tw g a n w G i) (a + 4)) (fun j_ => rfl)]
      refine G_iconst dX2_takeWalk_164 ?_
      refine G_iretZ rfl dX2_takeWalk_165 ?_
      obtain rfl : i = n := by omega
      refine ⟨rfl, ?_⟩
      rw [show (g a 0).toNat = i by omega]
    · refine G_aload_n (i := 0) dX2_takeWalk_86 rfl rfl ?_
      refine G_getR fX2_25 rfl dX2_takeWalk_87 hF.1 hF.2.2.2.2.2.2.1 ?_
      refine G_iload_n (i := 3) dX2_takeWalk_90 rfl rfl ?_
      refine G_dup2 dX2_takeWalk_91 ?_
      refine G_iald (v := (x_tw g a n w G i) (a + 2) i) dX2_takeWalk_92 hF.2.2.1 (by omega) rfl ?_
      refine G_iload_n (i := 2) dX2_takeWalk_93 rfl rfl ?_
      refine G_isub dX2_takeWalk_94 ?_
      refine G_iastk i dX2_takeWalk_95 hF.2.2.1 (by omega) rfl ?_
      refine G_iload_n (i := 1) dX2_takeWalk_96 rfl rfl ?_
      refine G_if_eq (tgt := 122) dX2_takeWalk_97 (by decide) (by omega) (fun c_2 => ?_) (fun c_2 => ?_)
      · refine G_aload_n (i := 0) dX2_takeWalk_122 rfl rfl ?_
        refine G_getR fX2_31 rfl dX2_takeWalk_123 hF.1 hF.2.2.2.2.2.2.2.2 ?_
        refine G_iload_n (i := 3) dX2_takeWalk_126 rfl rfl ?_
        refine G_aload_n (i := 0) dX2_takeWalk_127 rfl rfl ?_
        refine G_getR fX2_21 rfl dX2_takeWalk_128 hF.1 hF.2.2.2.2.2.1 ?_
        refine G_iload_n (i := 3) dX2_takeWalk_131 rfl rfl ?_
        refine G_aload_n (i := 0) dX2_takeWalk_132 rfl rfl ?_
        refine G_getI (v := g a 0) fX2_9 rfl dX2_takeWalk_133 hF.1 ((hs_na (by omega)).trans (x_tw_o (by omega))) ?_
        refine G_cNq (as := [.inl (i : Int), .inl (g a 0)]) qX2_63 (x_behind d τ (hs_ (x_tw g a n w G i) (a + 2) i (((x_tw g a n w G i) (a + 2) i) - G)) (i : Int) (g a 0) (by omega) (by omega)) rfl rfl (Nat.le_of_ble_eq_true rfl) dX2_takeWalk_136 ?_
        have hq := x_bh_r (n := g a 0) (p := (i : Int)) (by omega)
        refine G_iald (v := g (a + 1) ((x_bh (g a 0) (i : Int)).toNat)) dX2_takeWalk_139 hF.2.1 (by omega) ((hs_na (by omega)).trans (x_tw_o (by omega))) ?_
        refine G_iastk i dX2_takeWalk_140 hF.2.2.2.2.1 (by omega) rfl ?_
        refine G_iinc (ls' := [some (.inr (some a)), some (.inl o), some (.inl G), some (.inl ((i : Int) + 1))]) dX2_takeWalk_141 (by decide) rfl rfl ?_
        refine G_goto (tgt := 78) dX2_takeWalk_144 (by decide) ?_
        have hb : (x_bh (g a 0) (i : Int)).toNat = if i + 1 < n then i + 1 else 0 := by unfold x_bh; split <;> split <;> omega
        rw [x_tw_2 (by omega) (by omega) hb]
        exact ih (i + 1) (by omega) (by omega)
      · refine G_aload_n (i := 0) dX2_takeWalk_100 rfl rfl ?_
        refine G_getR fX2_31 rfl dX2_takeWalk_101 hF.1 hF.2.2.2.2.2.2.2.2 ?_
        refine G_iload_n (i := 3) dX2_takeWalk_104 rfl rfl ?_
        refine G_aload_n (i := 0) dX2_takeWalk_105 rfl rfl ?_
        refine G_getI (v := g a 0) fX2_9 rfl dX2_takeWalk_106 hF.1 ((hs_na (by omega)).trans (x_tw_o (by omega))) ?_
        refine G_cNq (as := [.inl (i : Int), .inl (g a 0)]) qX2_63 (x_behind d τ (hs_ (x_tw g a n w G i) (a + 2) i (((x_tw g a n w G i) (a + 2) i) - G)) (i : Int) (g a 0) (by omega) (by omega)) rfl rfl (Nat.le_of_ble_eq_true rfl) dX2_takeWalk_109 ?_
        have hq := x_bh_r (n := g a 0) (p := (i : Int)) (by omega)
        refine G_aload_n (i := 0) dX2_takeWalk_112 rfl rfl ?_
        refine G_getR fX2_21 rfl dX2_takeWalk_113 hF.1 hF.2.2.2.2.2.1 ?_
        refine G_iload_n (i := 3) dX2_takeWalk_116 rfl rfl ?_
        refine G_iald (v := g (a + 1) i) dX2_takeWalk_117 hF.2.1 (by omega) ((hs_na (by omega)).trans (x_tw_o (by omega))) ?_
        refine G_iastk ((x_bh (g a 0) (i : Int)).toNat) dX2_takeWalk_118 hF.2.2.2.2.1 (by omega) rfl ?_
        refine G_goto (tgt := 141) dX2_takeWalk_119 (by decide) ?_
        refine G_iinc (ls' := [some (.inr (some a)), some (.inl o), some (.inl G), some (.inl ((i : Int) + 1))]) dX2_takeWalk_141 (by decide) rfl rfl ?_
        refine G_goto (tgt := 78) dX2_takeWalk_144 (by decide) ?_
        obtain rfl : w = 0 := by omega
        have hb : (x_bh (g a 0) (i : Int)).toNat = if i + 1 < n then i + 1 else 0 := by unfold x_bh; split <;> split <;> omega
        rw [x_tw_1 (by omega) hb]
        exact ih (i + 1) (by omega) (by omega)

theorem x_takeWalk_L1 (d : Nat) (τ : TT) (h : HT) (a : Nat) (hF : FL τ a) (n : Int) (T : TR) (hn : 3 ≤ n ∧ n ≤ 9) (ft : FT n h a T) (ok : t_ok n T) (o w : Int) (ho : (o = 1 ∧ w = 0) ∨ (o = 0 ∧ w = 1)) : ∀ (n_ : Nat) (i : Nat), n.toNat - i < n_ → (i : Int) ≤ n → (∀ j : Nat, j < i → 10 + (h a 2).tdiv 3 ≤ h (a + 2) j) → G_ mX2_takeWalk (d + 1) 0 0 7 [some (.inr (some a)), some (.inl o), some (.inl (10 + (h a 2).tdiv 3)), some (.inl (i : Int))] [] τ h (Zi τ fun v h' => v = (t_tw n T w).1 ∧ FT n h' a (t_tw n T w).2 ∧ FRl a h h') := by
  intro n_
  induction n_ with
  | zero => intro i hm_; exact absurd hm_ (Nat.not_lt_zero _)
  | succ n_ ih =>
    intro i hm_ hi hj
    obtain ⟨f0, f1, f2, f3⟩ := ft
    obtain ⟨k1, k2, k3, k4, k5, k6⟩ := ok
    have hg : 0 ≤ (h a 2).tdiv 3 ∧ (h a 2).tdiv 3 ≤ 100 := ⟨Int.tdiv_nonneg (by omega) (by decide), Int.le_trans (Int.tdiv_le_self _ (by omega)) (by omega)⟩
    refine G_iload_n (i := 3) dX2_takeWalk_7 rfl rfl ?_
    refine G_aload_n (i := 0) dX2_takeWalk_8 rfl rfl ?_
    refine G_getI (v := h a 0) fX2_9 rfl dX2_takeWalk_9 hF.1 rfl ?_
    refine G_icmp_ge (tgt := 34) dX2_takeWalk_12 (by decide) (by omega) (by omega) (fun c_1 => ?_) (fun c_1 => ?_)
    · refine G_aload_n (i := 0) dX2_takeWalk_34 rfl rfl ?_
      refine G_getI (v := h a 1) fX2_15 rfl dX2_takeWalk_35 hF.1 rfl ?_
      refine G_sipush dX2_takeWalk_38 (by decide) ?_
      refine G_icmp_ge (tgt := 53) dX2_takeWalk_41 (by decide) (by omega) (by decide) (fun c_2 => ?_) (fun c_2 => ?_)
      · refine G_bipush dX2_takeWalk_53 (by decide) ?_
        refine G_iretZ rfl dX2_takeWalk_55 ?_
        have hlen : t_len n T := fun p hp => by have u1 := hj p (by omega); have u2 := (f3 p (by omega)).2.1; rw [← f2, ← u2]; omega
        have et : t_tw n T w = (-4, T) := by unfold t_tw; rw [if_pos hlen, if_pos (by omega)]
        rw [et]
        exact ⟨rfl, ⟨f0, f1, f2, f3⟩, FRl.rf⟩
      · refine G_aload_n (i := 0) dX2_takeWalk_44 rfl rfl ?_
        refine G_getI (v := h a 2) fX2_18 rfl dX2_takeWalk_45 hF.1 rfl ?_
        refine G_bipush dX2_takeWalk_48 (by decide) ?_
        refine G_icmp_lt (tgt := 56) dX2_takeWalk_50 (by decide) (by omega) (by decide) (fun c_3 => ?_) (fun c_3 => ?_)
        · refine G_aload_n (i := 0) dX2_takeWalk_56 rfl rfl ?_
          refine G_dup dX2_takeWalk_57 ?_
          refine G_getI (v := h a 1) fX2_15 rfl dX2_takeWalk_58 hF.1 rfl ?_
          refine G_iconst dX2_takeWalk_61 ?_
          refine G_iadd dX2_takeWalk_62 ?_
          refine G_putI fX2_15 dX2_takeWalk_63 hF.1 ?_
          refine G_aload_n (i := 0) dX2_takeWalk_66 rfl rfl ?_
          refine G_dup dX2_takeWalk_67 ?_
          refine G_getI (v := h a 2) fX2_18 rfl dX2_takeWalk_68 hF.1 (hs_ni (by decide)) ?_
          refine G_iconst dX2_takeWalk_71 ?_
          refine G_iadd dX2_takeWalk_72 ?_
          refine G_putI fX2_18 dX2_takeWalk_73 hF.1 ?_
          refine G_iconst dX2_takeWalk_76 ?_
          refine G_istore_n (i := 3) (ls' := [some (.inr (some a)), some (.inl o), some (.inl (10 + (h a 2).tdiv 3)), some (.inl 0)]) dX2_takeWalk_77 rfl (by decide) rfl ?_
          obtain ⟨N, rfl⟩ : ∃ N : Nat, n = (N : Int) := ⟨n.toNat, by omega⟩
          generalize hg : (hs_ (hs_ h a 1 ((h a 1) + 1)) a 2 ((h a 2) + 1)) = g
          have g0 : g a 0 = N := by rw [← hg]; simp [hs_, f0]
          have := x_takeWalk_L2 d τ a hF g N o w (10 + (h a 2).tdiv 3) ⟨g0, by omega, by omega⟩ ho _ 0 (Nat.lt_succ_self _) (Nat.zero_le _)
          rw [x_tw_z (by omega)] at this
          refine G_mono ?_ this
          rintro r τ' h' ⟨q1, v, q2, rfl, rfl⟩
          refine ⟨q1, _, q2, ?_⟩
          have hlen : t_len (N : Int) T := fun p hp => by have u1 := hj p (by omega); have u2 := (f3 p (by omega)).2.1; rw [← f2, ← u2]; omega
          have et : t_tw (N : Int) T w = (0, (T.1 + 1, T.2.1 + 1, (fun p => T.2.2.1 (f_rot N w p)), (fun p => T.2.2.2.1 p - (10 + T.2.1.tdiv 3)), T.2.2.2.2)) := by unfold t_tw; rw [if_pos hlen, if_neg (by omega)]; rfl
          rw [et]
          refine ⟨rfl, ⟨?_, ?_, ?_, fun k hk => ?_⟩, fun b j z => ?_⟩
          · rw [hf_na (by omega), x_tw_o (by omega)]; exact g0
          · rw [hf_na (by omega), x_tw_o (by omega), ← hg]; simp [hs_, f1]
          · rw [hf_na (by omega), x_tw_o (by omega), ← hg]; simp [hs_, f2]
          · have hk2 : k < N := by omega
            have hrk := f_rot_r (w := w) (j := k) (show 0 < N by omega) hk2
            refine ⟨?_, ?_, ?_⟩
            · rw [hf_in ⟨Nat.zero_le _, hk2⟩, x_tw_4 hk2, ← hg]; simp only [hs_]; rw [if_neg (by omega), if_neg (by omega)]; exact (f3 _ (by omega)).1
            · rw [hf_na (by omega), x_tw_2a hk2, ← hg]; simp only [hs_]; rw [if_neg (by omega), if_neg (by omega), (f3 k hk).2.1, f2]
            · rw [hf_na (by omega), x_tw_o (by omega), ← hg]; simp only [hs_]; rw [if_neg (by omega), if_neg (by omega)]; exact (f3 k hk).2.2
          · rw [hf_na (by omega), x_tw_o (by omega), ← hg]; simp only [hs_]; rw [if_neg (by omega), if_neg (by omega)]
        · refine G_bipush dX2_takeWalk_53 (by decide) ?_
          refine G_iretZ rfl dX2_takeWalk_55 ?_
          have hlen : t_len n T := fun p hp => by have u1 := hj p (by omega); have u2 := (f3 p (by omega)).2.1; rw [← f2, ← u2]; omega
          have et : t_tw n T w = (-4, T) := by unfold t_tw; rw [if_pos hlen, if_pos (by omega)]
          rw [et]
          exact ⟨rfl, ⟨f0, f1, f2, f3⟩, FRl.rf⟩
    · refine G_aload_n (i := 0) dX2_takeWalk_15 rfl rfl ?_
      refine G_getR fX2_25 rfl dX2_takeWalk_16 hF.1 hF.2.2.2.2.2.2.1 ?_
      refine G_iload_n (i := 3) dX2_takeWalk_19 rfl rfl ?_
      refine G_iald (v := h (a + 2) i) dX2_takeWalk_20 hF.2.2.1 (by omega) rfl ?_
      have u_ := f3 i (by omega)
      have w_ := k5 i (by omega)
      refine G_iload_n (i := 2) dX2_takeWalk_21 rfl rfl ?_
      refine G_icmp_ge (tgt := 28) dX2_takeWalk_22 (by decide) (by omega) (by omega) (fun c_4 => ?_) (fun c_4 => ?_)
      · refine G_iinc (ls' := [some (.inr (some a)), some (.inl o), some (.inl (10 + (h a 2).tdiv 3)), some (.inl ((i : Int) + 1))]) dX2_takeWalk_28 (by decide) rfl rfl ?_
        refine G_goto (tgt := 7) dX2_takeWalk_31 (by decide) ?_
        exact ih (i + 1) (by omega) (by omega) (fun j hj2 => by rcases Nat.lt_succ_iff_lt_or_eq.mp hj2 with z | z; exact hj j z; subst z; omega)
      · refine G_bipush dX2_takeWalk_25 (by decide) ?_
        refine G_iretZ rfl dX2_takeWalk_27 ?_
        have et : t_tw n T w = (-3, T) := by unfold t_tw; rw [if_neg (fun q => by have := q i (by omega); have u2 := (f3 i (by omega)).2.1; rw [← f2, ← u2] at this; omega)]
        rw [et]
        exact ⟨rfl, ⟨f0, f1, f2, f3⟩, FRl.rf⟩

theorem x_takeWalk (d : Nat) (τ : TT) (h : HT) (a : Nat) (hF : FL τ a) (n : Int) (T : TR) (hn : 3 ≤ n ∧ n ≤ 9) (ft : FT n h a T) (ok : t_ok n T) (o w : Int) (ho : (o = 1 ∧ w = 0) ∨ (o = 0 ∧ w = 1)) : S_ mX2_takeWalk (d + 1) 0 0 [.inr (some a), .inl o] τ h (Zi τ fun v h' => v = (t_tw n T w).1 ∧ FT n h' a (t_tw n T w).2 ∧ FRl a h h') := by
  have g2 : 0 ≤ h a 2 ∧ h a 2 ≤ 100 := by rw [ft.2.2.1]; exact ok.2.1
  refine S_go (k := 2) (ls := [some (.inr (some a)), some (.inl o), none, none]) (by decide) rfl (Nat.le_of_ble_eq_true rfl) rfl ?_
  refine G_aload_n (i := 0) dX2_takeWalk_0 rfl rfl ?_
  refine G_cVq (as := []) qX2_66 (x_girthNow d τ h a hF (by omega)) rfl rfl (Nat.le_of_ble_eq_true rfl) hF.1 dX2_takeWalk_1 ?_
  refine G_istore_n (i := 2) (ls' := [some (.inr (some a)), some (.inl o), some (.inl (10 + (h a 2).tdiv 3)), none]) dX2_takeWalk_4 rfl (by decide) rfl ?_
  refine G_iconst dX2_takeWalk_5 ?_
  refine G_istore_n (i := 3) (ls' := [some (.inr (some a)), some (.inl o), some (.inl (10 + (h a 2).tdiv 3)), some (.inl 0)]) dX2_takeWalk_6 rfl (by decide) rfl ?_
  exact x_takeWalk_L1 d τ h a hF n T hn ft ok o w ho _ 0 (Nat.lt_succ_self _) (by omega) (fun j hj => absurd hj (Nat.not_lt_zero _))

theorem x_take (d : Nat) (τ : TT) (h : HT) (a : Nat) (hF : FL τ a) (n : Int) (T : TR) (hn : 3 ≤ n ∧ n ≤ 9) (ft : FT n h a T) (ok : t_ok n T) (s : Int) (hs : f_okc s) : S_ mX2_take (d + 2) 0 0 [.inr (some a), .inl s] τ h (Zi τ fun v h' => v = (t_tk n T s).1 ∧ FT n h' a (t_tk n T s).2 ∧ FRl a h h') := by
  have hsr := f_okc_r hs
  have hs2 := hs
  unfold f_okc at hs2
  refine S_go (k := 0) (ls := [some (.inr (some a)), some (.inl s)]) (by decide) rfl (Nat.le_of_ble_eq_true rfl) rfl ?_
  refine G_iload_n (i := 1) dX2_take_0 rfl rfl ?_
  refine G_bipush dX2_take_1 (by decide) ?_
  refine G_icmp_lt (tgt := 22) dX2_take_3 (by decide) (by omega) (by decide) (fun c_1 => ?_) (fun c_1 => ?_)
  · refine G_aload_n (i := 0) dX2_take_22 rfl rfl ?_
    refine G_iload_n (i := 1) dX2_take_23 rfl rfl ?_
    refine G_bipush dX2_take_24 (by decide) ?_
    refine G_idiv dX2_take_26 (by omega) (by decide) ?_
    refine G_iload_n (i := 1) dX2_take_27 rfl rfl ?_
    refine G_bipush dX2_take_28 (by decide) ?_
    refine G_irem dX2_take_30 (by omega) (by decide) ?_
    have dd := f_okc_d hs (by omega)
    refine G_cVi (as := [.inl (s.tdiv 10), .inl (s.tmod 10)]) qX2_59 (x_takePass d τ h a hF n T hn ft ok (s.tdiv 10) (s.tmod 10) (by omega) (by omega)) rfl rfl (Nat.le_of_ble_eq_true rfl) hF.1 dX2_take_31 (fun v1 g e1 => ?_)
    refine G_iretZ rfl dX2_take_34 ?_
    have et : t_tk n T s = t_tp n T (s.tdiv 10) (s.tmod 10) := if_neg (by omega)
    rw [et]
    exact e1
  · refine G_aload_n (i := 0) dX2_take_6 rfl rfl ?_
    refine G_iload_n (i := 1) dX2_take_7 rfl rfl ?_
    refine G_bipush dX2_take_8 (by decide) ?_
    suffices K_4 : ∀ x_3 : Int, x_3 = (if s = 100 then 1 else 0) → G_ mX2_take (d + 2) 0 0 18 [some (.inr (some a)), some (.inl s)] [.inl x_3, .inr (some a)] τ h (Zi τ fun v h' => v = (t_tk n T s).1 ∧ FT n h' a (t_tk n T s).2 ∧ FRl a h h') by
      refine G_icmp_ne (tgt := 17) dX2_take_10 (by decide) (by omega) (by decide) (fun c_2 => ?_) (fun c_2 => ?_)
      · refine G_iconst dX2_take_17 ?_
        exact K_4 _ (if_neg c_2).symm
      · refine G_iconst dX2_take_13 ?_
        refine G_goto (tgt := 18) dX2_take_14 (by decide) ?_
        exact K_4 _ (if_pos c_2).symm
    intro x_3 ex_3
    refine G_cVi (as := [.inl x_3]) qX2_55 (x_takeWalk d τ h a hF n T hn ft ok x_3 (s - 100) (by omega)) rfl rfl (Nat.le_of_ble_eq_true rfl) hF.1 dX2_take_18 (fun v1 g e1 => ?_)
    refine G_iretZ rfl dX2_take_21 ?_
    have et : t_tk n T s = t_tw n T (s - 100) := if_pos (by omega)
    rw [et]
    exact e1

theorem t_tp_ok {n : Int} {T : TR} {p w : Int} (hn : 3 ≤ n) (x : t_ok n T) (hp : 0 ≤ p) (hw : 0 ≤ w ∧ w ≤ 1) : t_ok n (t_tp n T p w).2 := by
  unfold t_tp
  cases e : t_pass n T p w with
  | none => exact x
  | some T' =>
    have y := t_pass_ok hn x hp hw e
    show t_ok n (if 300 ≤ T.1 then ((-4 : Int), T) else (0, (T.1 + 1, T'.2))).2
    split
    · exact x
    · exact ⟨⟨by have := x.1; simp only; omega, by simp only; omega⟩, y.2⟩
theorem t_tw_ok {n : Int} {T : TR} {w : Int} (hn : 3 ≤ n) (x : t_ok n T) : t_ok n (t_tw n T w).2 := by
  unfold t_tw
  split
  · rename_i hl
    split
    · exact x
    · rename_i h2
      obtain ⟨x1, x2, x3, x4, x5, x6⟩ := x
      have hr : ∀ k : Nat, (k : Int) < n → ((f_rot n.toNat w k : Nat) : Int) < n := fun k hk => by have := f_rot_r (w := w) (j := k) (show 0 < n.toNat by omega) (by omega); omega
      have hg : 0 ≤ T.2.1.tdiv 3 := Int.tdiv_nonneg x2.1 (by decide)
      refine ⟨⟨by simp only; omega, by simp only; omega⟩, ⟨by simp only; omega, by simp only; omega⟩, fun k hk => x3 _ (hr k hk), fun j k hj hk z => ?_, fun k hk => ?_, x6⟩
      · exact f_rot_i (w := w) (n := n.toNat) (by omega) (by omega) (x4 _ _ (hr j hj) (hr k hk) z)
      · have := x5 k hk; have := hl k (by omega); simp only; omega
  · exact x
theorem t_tk_ok {n : Int} {T : TR} {s : Int} (hn : 3 ≤ n) (x : t_ok n T) (hs : f_okc s) : t_ok n (t_tk n T s).2 := by
  unfold t_tk
  split
  · exact t_tw_ok hn x
  · rename_i h
    have d := f_okc_d hs (by omega)
    refine t_tp_ok hn x d.2.1 ?_
    rcases hs with z | z | z <;> omega
theorem t_tk_r {n : Int} {T : TR} {s : Int} : (t_tk n T s).1 = 0 ∨ (t_tk n T s).1 = -3 ∨ (t_tk n T s).1 = -4 := by
  unfold t_tk t_tw t_tp
  split
  · split
    · split
      · exact Or.inr (Or.inr rfl)
      · exact Or.inl rfl
    · exact Or.inr (Or.inl rfl)
  · split
    · exact Or.inr (Or.inl rfl)
    · split
      · exact Or.inr (Or.inr rfl)
      · exact Or.inl rfl
