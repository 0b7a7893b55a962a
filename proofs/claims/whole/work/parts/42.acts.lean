/-! the class: rows of steps, acts, people -/
section GQ
variable {M : MT} {d bc bs pc : Nat} {ls : List (Option AV)} {st : List AV} {τ : TT} {h : HT} {Z : ZT}
theorem G_ialdBv {i v : Int} (hd : decode M.1 pc = .ok (.iaload, 1)) (hi : 0 ≤ i ∧ i < 15) (hv : gb_BO.getD i.toNat 0 = v) (kk : G_ M d bc bs (pc + 1) ls (.inl v :: st) τ h Z) : G_ M d bc bs pc ls (.inl i :: .inr (some 1000000) :: st) τ h Z := by
  subst hv
  exact G_ialdB hd hi kk
theorem G_ialdKv {i v : Int} (hd : decode M.1 pc = .ok (.iaload, 1)) (hi : 0 ≤ i ∧ i < 5) (hv : gb_KA.getD i.toNat 0 = v) (kk : G_ M d bc bs (pc + 1) ls (.inl v :: st) τ h Z) : G_ M d bc bs pc ls (.inl i :: .inr (some 1000001) :: st) τ h Z := by
  subst hv
  exact G_ialdK hd hi kk
end GQ
def x_note (h : HT) (b : Int) : HT := hs_ (if h 2 1 < 20 then hs_ h 3 (h 2 1).toNat b else h) 2 1 (h 2 1 + 1)
def x_logs (h : HT) : List Int → HT
  | [] => h
  | b :: t => x_logs (x_note h b) t
theorem x_note_o {h : HT} {b : Int} {a i : Nat} (ha : a ≠ 2 ∧ a ≠ 3) : x_note h b a i = h a i := by
  unfold x_note
  rw [hs_na ha.1]
  split
  · rw [hs_na ha.2]
  · rfl
theorem x_logs_o (l : List Int) : ∀ {h : HT} {a i : Nat}, (a ≠ 2 ∧ a ≠ 3) → x_logs h l a i = h a i := by
  induction l with
  | nil => intro h a i _; rfl
  | cons b t ih => intro h a i q; show x_logs (x_note h b) t a i = _; rw [ih q, x_note_o q]
theorem x_logs_n (l : List Int) : ∀ {h : HT}, x_logs h l 2 1 = h 2 1 + l.length := by
  induction l with
  | nil => intro h; show h 2 1 = h 2 1 + ((0 : Nat) : Int); omega
  | cons b t ih =>
    intro h
    show x_logs (x_note h b) t 2 1 = _
    rw [ih, show x_note h b 2 1 = h 2 1 + 1 from hs_eq, List.length_cons]
    omega
/-- both logs are alike -/
theorem x_logs_f (l : List Int) : ∀ {h g : HT}, h 2 1 = g 81 55 → 0 ≤ h 2 1 → (∀ k : Nat, k < 20 → h 3 k = g 121 k) → ∀ k : Nat, k < 20 → x_logs h l 3 k = f_logs g l 121 k := by
  induction l with
  | nil => intro h g _ _ e; exact e
  | cons b t ih =>
    intro h g e1 e2 e3 k hk
    show x_logs (x_note h b) t 3 k = f_logs (f_body g b) t 121 k
    refine ih ?_ ?_ ?_ k hk
    · show hs_ _ 2 1 (h 2 1 + 1) 2 1 = hs_ _ 81 55 (g 81 55 + 1) 81 55
      rw [hs_eq, hs_eq, e1]
    · show 0 ≤ hs_ _ 2 1 (h 2 1 + 1) 2 1
      rw [hs_eq]; omega
    · intro j hj
      unfold x_note f_body
      rw [hs_na (by decide), hs_na (by decide), ← e1]
      by_cases z : h 2 1 < 20
      · rw [if_pos z, if_pos z]
        by_cases y : j = (h 2 1).toNat
        · rw [y, hs_eq, hs_eq]
        · rw [hs_ni y, hs_ni y]; exact e3 j hj
      · rw [if_neg z, if_neg z]; exact e3 j hj
theorem x_clear (d : Nat) (τ : TT) (h : HT) (a L : Nat) (hS : ST τ a L) : S_ mX9_clear d 0 0 [.inr (some a)] τ h (Zv τ fun h' => h' = hs_ h a 1 0) := by
  refine S_go (k := 0) (ls := [some (.inr (some a))]) (by decide) rfl (Nat.le_of_ble_eq_true rfl) rfl ?_
  refine G_aload_n (i := 0) dX9_clear_0 rfl rfl ?_
  refine G_iconst dX9_clear_1 ?_
  refine G_putI fX9_9 dX9_clear_2 hS.1 ?_
  refine G_vretZ rfl dX9_clear_5 ?_
  rfl

def x_addV (h : HT) (a L : Nat) : Int := if h a 1 < L then 1 else 0
def x_addH (h : HT) (a L : Nat) (s : Int) : HT := if h a 1 < L then hs_ (hs_ h (a + 1) (h a 1).toNat s) a 1 (h a 1 + 1) else h
def x_cod (h : HT) (a : Nat) (i : Int) : Int := if 0 ≤ i ∧ i < h a 1 then h (a + 1) i.toNat else -1
def x_wk (f : Nat → Int) : Nat → Int
  | 0 => 0
  | k + 1 => x_wk f k + if 100 ≤ f k then 1 else 0
theorem x_wk_r (f : Nat → Int) : ∀ k : Nat, 0 ≤ x_wk f k ∧ x_wk f k ≤ k
  | 0 => ⟨Int.le_refl 0, Int.le_refl 0⟩
  | k + 1 => by
    have := x_wk_r f k
    show 0 ≤ x_wk f k + (if 100 ≤ f k then 1 else 0) ∧ x_wk f k + (if 100 ≤ f k then 1 else 0) ≤ ((k + 1 : Nat) : Int)
    split <;> omega
theorem x_add (d : Nat) (τ : TT) (h : HT) (a L : Nat) (hS : ST τ a L) (s : Int) (hc : 0 ≤ h a 1 ∧ h a 1 ≤ L) : S_ mX9_add d 0 0 [.inr (some a), .inl s] τ h (Zi τ fun v h' => v = x_addV h a L ∧ h' = x_addH h a L s) := by
  have hL := hS.2.1.2.2.2
  refine S_go (k := 0) (ls := [some (.inr (some a)), some (.inl s)]) (by decide) rfl (Nat.le_of_ble_eq_true rfl) rfl ?_
  refine G_aload_n (i := 0) dX9_add_0 rfl rfl ?_
  refine G_getI (v := h a 1) fX9_9 rfl dX9_add_1 hS.1 rfl ?_
  refine G_aload_n (i := 0) dX9_add_4 rfl rfl ?_
  refine G_getR fX9_15 rfl dX9_add_5 hS.1 hS.2.2 ?_
  refine G_alen (Or.inl rfl) dX9_add_8 hS.2.1 ?_
  refine G_icmp_lt (tgt := 14) dX9_add_9 (by decide) (by omega) (by omega) (fun c_1 => ?_) (fun c_1 => ?_)
  · refine G_aload_n (i := 0) dX9_add_14 rfl rfl ?_
    refine G_getR fX9_15 rfl dX9_add_15 hS.1 hS.2.2 ?_
    refine G_aload_n (i := 0) dX9_add_18 rfl rfl ?_
    refine G_getI (v := h a 1) fX9_9 rfl dX9_add_19 hS.1 rfl ?_
    refine G_iload_n (i := 1) dX9_add_22 rfl rfl ?_
    refine G_iastk ((h a 1).toNat) dX9_add_23 hS.2.1 (by omega) rfl ?_
    refine G_aload_n (i := 0) dX9_add_24 rfl rfl ?_
    refine G_dup dX9_add_25 ?_
    refine G_getI (v := h a 1) fX9_9 rfl dX9_add_26 hS.1 (hs_na (by omega)) ?_
    refine G_iconst dX9_add_29 ?_
    refine G_iadd dX9_add_30 ?_
    refine G_putI fX9_9 dX9_add_31 hS.1 ?_
    refine G_iconst dX9_add_34 ?_
    refine G_zretZ rfl (by decide) dX9_add_35 ?_
    exact ⟨by unfold x_addV; first | rw [if_pos (by omega)] | rw [if_neg (by omega)], by unfold x_addH; first | rw [if_pos (by omega)] | rw [if_neg (by omega)]⟩
  · refine G_iconst dX9_add_12 ?_
    refine G_zretZ rfl (by decide) dX9_add_13 ?_
    exact ⟨by unfold x_addV; first | rw [if_pos (by omega)] | rw [if_neg (by omega)], by unfold x_addH; first | rw [if_pos (by omega)] | rw [if_neg (by omega)]⟩

theorem x_codeAt (d : Nat) (τ : TT) (h : HT) (a L : Nat) (hS : ST τ a L) (i : Int) (r_i : -2147483648 ≤ i ∧ i ≤ 2147483647) (hc : 0 ≤ h a 1 ∧ h a 1 ≤ L) : S_ mX9_codeAt d 0 0 [.inr (some a), .inl i] τ h (Zi τ fun v h' => v = x_cod h a i ∧ h' = h) := by
  have hL := hS.2.1.2.2.2
  refine S_go (k := 0) (ls := [some (.inr (some a)), some (.inl i)]) (by decide) rfl (Nat.le_of_ble_eq_true rfl) rfl ?_
  refine G_iload_n (i := 1) dX9_codeAt_0 rfl rfl ?_
  refine G_if_lt (tgt := 21) dX9_codeAt_1 (by decide) (by omega) (fun c_1 => ?_) (fun c_1 => ?_)
  · refine G_iconst dX9_codeAt_21 ?_
    refine G_iretZ rfl dX9_codeAt_22 ?_
    exact ⟨by unfold x_cod; first | rw [if_pos (by omega)] | rw [if_neg (by omega)], rfl⟩
  · refine G_iload_n (i := 1) dX9_codeAt_4 rfl rfl ?_
    refine G_aload_n (i := 0) dX9_codeAt_5 rfl rfl ?_
    refine G_getI (v := h a 1) fX9_9 rfl dX9_codeAt_6 hS.1 rfl ?_
    refine G_icmp_ge (tgt := 21) dX9_codeAt_9 (by decide) (by omega) (by omega) (fun c_2 => ?_) (fun c_2 => ?_)
    · refine G_iconst dX9_codeAt_21 ?_
      refine G_iretZ rfl dX9_codeAt_22 ?_
      exact ⟨by unfold x_cod; first | rw [if_pos (by omega)] | rw [if_neg (by omega)], rfl⟩
    · refine G_aload_n (i := 0) dX9_codeAt_12 rfl rfl ?_
      refine G_getR fX9_15 rfl dX9_codeAt_13 hS.1 hS.2.2 ?_
      refine G_iload_n (i := 1) dX9_codeAt_16 rfl rfl ?_
      refine G_iald (v := h (a + 1) ((i).toNat)) dX9_codeAt_17 hS.2.1 (by omega) rfl ?_
      refine G_goto (tgt := 22) dX9_codeAt_18 (by decide) ?_
      refine G_iretZ rfl dX9_codeAt_22 ?_
      exact ⟨by unfold x_cod; first | rw [if_pos (by omega)] | rw [if_neg (by omega)], rfl⟩

theorem x_walksIn_L (d : Nat) (τ : TT) (h : HT) (a L : Nat) (hS : ST τ a L) (hc : 0 ≤ h a 1 ∧ h a 1 ≤ L) (hr : ∀ k : Nat, (k : Int) < h a 1 → 0 ≤ h (a + 1) k ∧ h (a + 1) k ≤ 101) : ∀ (n_ : Nat) (i : Nat), (h a 1).toNat - i < n_ → (i : Int) ≤ h a 1 → G_ mX9_walksIn d 0 0 4 [some (.inr (some a)), some (.inl (x_wk (h (a + 1)) i)), some (.inl (i : Int))] [] τ h (Zi τ fun v h' => v = x_wk (h (a + 1)) (h a 1).toNat ∧ h' = h) := by
  intro n_
  induction n_ with
  | zero => intro i hm_; exact absurd hm_ (Nat.not_lt_zero _)
  | succ n_ ih =>
    intro i hm_ hi
    have hL := hS.2.1.2.2.2
    refine G_iload_n (i := 2) dX9_walksIn_4 rfl rfl ?_
    refine G_aload_n (i := 0) dX9_walksIn_5 rfl rfl ?_
    refine G_getI (v := h a 1) fX9_9 rfl dX9_walksIn_6 hS.1 rfl ?_
    refine G_icmp_ge (tgt := 32) dX9_walksIn_9 (by decide) (by omega) (by omega) (fun c_1 => ?_) (fun c_1 => ?_)
    · refine G_iload_n (i := 1) dX9_walksIn_32 rfl rfl ?_
      refine G_iretZ rfl dX9_walksIn_33 ?_
      obtain rfl : i = (h a 1).toNat := by omega
      exact ⟨rfl, rfl⟩
    · refine G_aload_n (i := 0) dX9_walksIn_12 rfl rfl ?_
      refine G_getR fX9_15 rfl dX9_walksIn_13 hS.1 hS.2.2 ?_
      refine G_iload_n (i := 2) dX9_walksIn_16 rfl rfl ?_
      refine G_iald (v := h (a + 1) i) dX9_walksIn_17 hS.2.1 (by omega) rfl ?_
      have e_ := hr i (by omega)
      refine G_bipush dX9_walksIn_18 (by decide) ?_
      refine G_icmp_lt (tgt := 26) dX9_walksIn_20 (by decide) (by omega) (by decide) (fun c_2 => ?_) (fun c_2 => ?_)
      · refine G_iinc (ls' := [some (.inr (some a)), some (.inl (x_wk (h (a + 1)) i)), some (.inl ((i : Int) + 1))]) dX9_walksIn_26 (by decide) rfl rfl ?_
        refine G_goto (tgt := 4) dX9_walksIn_29 (by decide) ?_
        rw [show x_wk (h (a + 1)) i = x_wk (h (a + 1)) (i + 1) from by show _ = x_wk (h (a + 1)) i + (if 100 ≤ h (a + 1) i then 1 else 0); rw [if_neg (by omega)]; omega]
        exact ih (i + 1) (by omega) (by omega)
      · refine G_iinc (ls' := [some (.inr (some a)), some (.inl ((x_wk (h (a + 1)) i) + 1)), some (.inl (i : Int))]) dX9_walksIn_23 (by decide) rfl rfl ?_
        refine G_iinc (ls' := [some (.inr (some a)), some (.inl ((x_wk (h (a + 1)) i) + 1)), some (.inl ((i : Int) + 1))]) dX9_walksIn_26 (by decide) rfl rfl ?_
        refine G_goto (tgt := 4) dX9_walksIn_29 (by decide) ?_
        rw [show (x_wk (h (a + 1)) i) + 1 = x_wk (h (a + 1)) (i + 1) from by show _ = x_wk (h (a + 1)) i + (if 100 ≤ h (a + 1) i then 1 else 0); rw [if_pos (by omega)]]
        exact ih (i + 1) (by omega) (by omega)

theorem x_walksIn (d : Nat) (τ : TT) (h : HT) (a L : Nat) (hS : ST τ a L) (hc : 0 ≤ h a 1 ∧ h a 1 ≤ L) (hr : ∀ k : Nat, (k : Int) < h a 1 → 0 ≤ h (a + 1) k ∧ h (a + 1) k ≤ 101) : S_ mX9_walksIn d 0 0 [.inr (some a)] τ h (Zi τ fun v h' => v = x_wk (h (a + 1)) (h a 1).toNat ∧ h' = h) := by
  refine S_go (k := 2) (ls := [some (.inr (some a)), none, none]) (by decide) rfl (Nat.le_of_ble_eq_true rfl) rfl ?_
  refine G_iconst dX9_walksIn_0 ?_
  refine G_istore_n (i := 1) (ls' := [some (.inr (some a)), some (.inl 0), none]) dX9_walksIn_1 rfl (by decide) rfl ?_
  refine G_iconst dX9_walksIn_2 ?_
  refine G_istore_n (i := 2) (ls' := [some (.inr (some a)), some (.inl 0), some (.inl 0)]) dX9_walksIn_3 rfl (by decide) rfl ?_
  exact x_walksIn_L d τ h a L hS hc hr _ 0 (Nat.lt_succ_self _) (by omega)

theorem x_traced (d : Nat) (τ : TT) (h : HT) (hT : TK τ) (i : Int) (r_i : -2147483648 ≤ i ∧ i ≤ 2147483647) (hra : 0 ≤ h 2 1 ∧ h 2 1 ≤ 1000) : S_ mX0_traced d 0 0 [.inr (some 2), .inl i] τ h (Zi τ fun v h' => v = (if 0 ≤ i ∧ i < h 2 1 ∧ i < 20 then h 3 i.toNat else -1) ∧ h' = h) := by
  refine S_go (k := 0) (ls := [some (.inr (some 2)), some (.inl i)]) (by decide) rfl (Nat.le_of_ble_eq_true rfl) rfl ?_
  refine G_iload_n (i := 1) dX0_traced_0 rfl rfl ?_
  refine G_if_lt (tgt := 27) dX0_traced_1 (by decide) (by omega) (fun c_1 => ?_) (fun c_1 => ?_)
  · refine G_iconst dX0_traced_27 ?_
    refine G_iretZ rfl dX0_traced_28 ?_
    exact ⟨by first | rw [if_pos (by omega)] | rw [if_neg (by omega)], rfl⟩
  · refine G_iload_n (i := 1) dX0_traced_4 rfl rfl ?_
    refine G_aload_n (i := 0) dX0_traced_5 rfl rfl ?_
    refine G_getI (v := h 2 1) fX0_15 rfl dX0_traced_6 (o2 hT) rfl ?_
    refine G_icmp_ge (tgt := 27) dX0_traced_9 (by decide) (by omega) (by omega) (fun c_2 => ?_) (fun c_2 => ?_)
    · refine G_iconst dX0_traced_27 ?_
      refine G_iretZ rfl dX0_traced_28 ?_
      exact ⟨by first | rw [if_pos (by omega)] | rw [if_neg (by omega)], rfl⟩
    · refine G_iload_n (i := 1) dX0_traced_12 rfl rfl ?_
      refine G_bipush dX0_traced_13 (by decide) ?_
      refine G_icmp_ge (tgt := 27) dX0_traced_15 (by decide) (by omega) (by decide) (fun c_3 => ?_) (fun c_3 => ?_)
      · refine G_iconst dX0_traced_27 ?_
        refine G_iretZ rfl dX0_traced_28 ?_
        exact ⟨by first | rw [if_pos (by omega)] | rw [if_neg (by omega)], rfl⟩
      · refine G_aload_n (i := 0) dX0_traced_18 rfl rfl ?_
        refine G_getR fX0_11 rfl dX0_traced_19 (o2 hT) (r2_0 hT) ?_
        refine G_iload_n (i := 1) dX0_traced_22 rfl rfl ?_
        refine G_iald (v := h 3 ((i).toNat)) dX0_traced_23 (o3 hT) (by omega) rfl ?_
        refine G_goto (tgt := 28) dX0_traced_24 (by decide) ?_
        refine G_iretZ rfl dX0_traced_28 ?_
        exact ⟨by first | rw [if_pos (by omega)] | rw [if_neg (by omega)], rfl⟩

theorem x_noteM (d : Nat) (τ : TT) (h : HT) (hT : TK τ) (b : Int) (hra : 0 ≤ h 2 1 ∧ h 2 1 ≤ 1000) : S_ mX0_note d 0 0 [.inr (some 2), .inl b] τ h (Zv τ fun h' => h' = x_logs h [b]) := by
  refine S_go (k := 0) (ls := [some (.inr (some 2)), some (.inl b)]) (by decide) rfl (Nat.le_of_ble_eq_true rfl) rfl ?_
  refine G_aload_n (i := 0) dX0_note_0 rfl rfl ?_
  refine G_getI (v := h 2 1) fX0_15 rfl dX0_note_1 (o2 hT) rfl ?_
  refine G_bipush dX0_note_4 (by decide) ?_
  refine G_icmp_ge (tgt := 19) dX0_note_6 (by decide) (by omega) (by decide) (fun c_1 => ?_) (fun c_1 => ?_)
  · refine G_aload_n (i := 0) dX0_note_19 rfl rfl ?_
    refine G_dup dX0_note_20 ?_
    refine G_getI (v := h 2 1) fX0_15 rfl dX0_note_21 (o2 hT) rfl ?_
    refine G_iconst dX0_note_24 ?_
    refine G_iadd dX0_note_25 ?_
    refine G_putI fX0_15 dX0_note_26 (o2 hT) ?_
    refine G_vretZ rfl dX0_note_29 ?_
    show _ = x_note h b; unfold x_note; first | (rw [if_pos (by omega)]) | (rw [if_neg (by omega)])
  · refine G_aload_n (i := 0) dX0_note_9 rfl rfl ?_
    refine G_getR fX0_11 rfl dX0_note_10 (o2 hT) (r2_0 hT) ?_
    refine G_aload_n (i := 0) dX0_note_13 rfl rfl ?_
    refine G_getI (v := h 2 1) fX0_15 rfl dX0_note_14 (o2 hT) rfl ?_
    refine G_iload_n (i := 1) dX0_note_17 rfl rfl ?_
    refine G_iastk ((h 2 1).toNat) dX0_note_18 (o3 hT) (by omega) rfl ?_
    refine G_aload_n (i := 0) dX0_note_19 rfl rfl ?_
    refine G_dup dX0_note_20 ?_
    refine G_getI (v := h 2 1) fX0_15 rfl dX0_note_21 (o2 hT) (hs_na (by decide)) ?_
    refine G_iconst dX0_note_24 ?_
    refine G_iadd dX0_note_25 ?_
    refine G_putI fX0_15 dX0_note_26 (o2 hT) ?_
    refine G_vretZ rfl dX0_note_29 ?_
    show _ = x_note h b; unfold x_note; first | (rw [if_pos (by omega)]) | (rw [if_neg (by omega)])

theorem x_run_0_10 (d : Nat) (τ : TT) (h : HT) (hT : TK τ) (o : Nat) (hP : ob_ τ o 5) (ho : 126 ≤ o) (hk : h o 1 = 0) (x dep : Int) (hra : 0 ≤ h 2 1 ∧ h 2 1 ≤ 900 - 20 * 0) (hdp : 0 ≤ dep ∧ dep ≤ 40) : S_ mX0_run d 0 0 [.inr (some 2), .inr (some o), .inl 10, .inl (-1), .inl x, .inl dep] τ h (Zi τ fun v h' => v = x + h o 2 ∧ h' = x_logs h []) := by
  refine S_go (k := 1) (ls := [some (.inr (some 2)), some (.inr (some o)), some (.inl 10), some (.inl (-1)), some (.inl x), some (.inl dep), none]) (by decide) rfl (Nat.le_of_ble_eq_true rfl) rfl ?_
  refine G_aload_n (i := 1) dX0_run_0 rfl rfl ?_
  refine G_getI (v := 0) fX0_19 rfl dX0_run_1 hP (hk) ?_
  refine G_istore (ls' := [some (.inr (some 2)), some (.inr (some o)), some (.inl 10), some (.inl (-1)), some (.inl x), some (.inl dep), some (.inl 0)]) dX0_run_4 (by decide) rfl ?_
  refine G_iload_n (i := 2) dX0_run_6 rfl rfl ?_
  refine G_lsw (off := 65) (tgt := 72) dX0_run_7 (by decide) (by decide) (by decide) (by decide) ?_
  refine G_iload dX0_run_72 rfl ?_
  refine G_aload_n (i := 1) dX0_run_74 rfl rfl ?_
  refine G_getI (v := h o 2) fX0_41 rfl dX0_run_75 hP rfl ?_
  refine G_iadd dX0_run_78 ?_
  refine G_iretZ rfl dX0_run_79 ?_
  exact ⟨rfl, rfl⟩

theorem x_ask_0_0_0 (d : Nat) (τ : TT) (h : HT) (hT : TK τ) (o : Nat) (hP : ob_ τ o 5) (ho : 126 ≤ o) (hk : h o 1 = 0) (x dep : Int) (hra : 0 ≤ h 2 1 ∧ h 2 1 ≤ 900 - 20 * 1) (hdp : 0 ≤ dep ∧ dep ≤ 39) : S_ mX0_ask (d + 1) 0 0 [.inr (some 2), .inr (some o), .inl 0, .inl 0, .inl x, .inl dep] τ h (Zi τ fun v h' => v = x + h o 2 ∧ h' = x_logs h [10]) := by
  refine S_go (k := 2) (ls := [some (.inr (some 2)), some (.inr (some o)), some (.inl 0), some (.inl 0), some (.inl x), some (.inl dep), none, none]) (by decide) rfl (Nat.le_of_ble_eq_true rfl) rfl ?_
  refine G_iload_n (i := 2) dX0_ask_0 rfl rfl ?_
  refine G_istore (ls' := [some (.inr (some 2)), some (.inr (some o)), some (.inl 0), some (.inl 0), some (.inl x), some (.inl dep), some (.inl 0), none]) dX0_ask_1 (by decide) rfl ?_
  refine G_iconst dX0_ask_3 ?_
  refine G_istore (ls' := [some (.inr (some 2)), some (.inr (some o)), some (.inl 0), some (.inl 0), some (.inl x), some (.inl dep), some (.inl 0), some (.inl 0)]) dX0_ask_4 (by decide) rfl ?_
  refine G_iload dX0_ask_6 rfl ?_
  refine G_iconst dX0_ask_8 ?_
  refine G_icmp_ge (tgt := 44) dX0_ask_9 (by decide) (by decide) (by decide) (fun q => absurd q (by decide)) (fun _ => ?_)
  refine G_iload dX0_ask_12 rfl ?_
  refine G_if_le (tgt := 44) dX0_ask_14 (by decide) (by decide) (fun _ => ?_) (fun q => absurd q (by decide))
  refine G_iload dX0_ask_44 rfl ?_
  refine G_if_lt (tgt := 56) dX0_ask_46 (by decide) (by decide) (fun q => absurd q (by decide)) (fun _ => ?_)
  refine G_iload dX0_ask_49 rfl ?_
  refine G_bipush dX0_ask_51 (by decide) ?_
  refine G_icmp_le (tgt := 58) dX0_ask_53 (by decide) (by omega) (by decide) (fun c_1 => ?_) (fun c_1 => ?_)
  · refine G_getsB (by decide +kernel) dX0_ask_58 ?_
    refine G_iconst dX0_ask_61 ?_
    refine G_iload dX0_ask_62 rfl ?_
    refine G_imul dX0_ask_64 ?_
    refine G_iload_n (i := 3) dX0_ask_65 rfl rfl ?_
    refine G_iadd dX0_ask_66 ?_
    refine G_ialdBv (v := 10) dX0_ask_67 (by decide) rfl ?_
    refine G_istore (ls' := [some (.inr (some 2)), some (.inr (some o)), some (.inl 0), some (.inl 0), some (.inl x), some (.inl dep), some (.inl 0), some (.inl 10)]) dX0_ask_68 (by decide) rfl ?_
    refine G_aload_n (i := 0) dX0_ask_70 rfl rfl ?_
    refine G_iload dX0_ask_71 rfl ?_
    refine G_cVv (as := [.inl 10]) qX0_34 (x_noteM d τ h hT 10 (by first | omega | (simp only [x_logs_n, List.length_cons, List.length_nil]; omega))) rfl rfl (Nat.le_of_ble_eq_true rfl) (o2 hT) dX0_ask_73 (fun h' e' => ?_)
    subst e'
    refine G_aload_n (i := 0) dX0_ask_76 rfl rfl ?_
    refine G_aload_n (i := 1) dX0_ask_77 rfl rfl ?_
    refine G_iload dX0_ask_78 rfl ?_
    refine G_getsK (by decide +kernel) dX0_ask_80 ?_
    refine G_iload dX0_ask_83 rfl ?_
    refine G_ialdKv (v := (-1)) dX0_ask_85 (by decide) rfl ?_
    refine G_iload dX0_ask_86 rfl ?_
    refine G_iload dX0_ask_88 rfl ?_
    refine G_iconst dX0_ask_90 ?_
    refine G_iadd dX0_ask_91 ?_
    refine G_cVi (as := [.inr (some o), .inl 10, .inl (-1), .inl x, .inl (dep + 1)]) qX0_38 (x_run_0_10 d τ (x_logs h [10]) hT o hP ho (by rw [x_logs_o [10] (by omega)]; exact hk) x (dep + 1) (by first | omega | (simp only [x_logs_n, List.length_cons, List.length_nil]; omega)) (by omega)) rfl rfl (Nat.le_of_ble_eq_true rfl) (o2 hT) dX0_ask_92 (fun v' h' e' => ?_)
    obtain ⟨rfl, rfl⟩ := e'
    refine G_iretZ rfl dX0_ask_95 ?_
    exact ⟨by simp only [x_logs_o [10] (show o ≠ 2 ∧ o ≠ 3 by omega)], rfl⟩
  · refine G_iconst dX0_ask_56 ?_
    refine G_iretZ rfl dX0_ask_57 ?_
    exfalso; omega

theorem x_run_0_11 (d : Nat) (τ : TT) (h : HT) (hT : TK τ) (o : Nat) (hP : ob_ τ o 5) (ho : 126 ≤ o) (hk : h o 1 = 0) (x dep : Int) (hra : 0 ≤ h 2 1 ∧ h 2 1 ≤ 900 - 20 * 2) (hdp : 0 ≤ dep ∧ dep ≤ 38) : S_ mX0_run (d + 2) 0 0 [.inr (some 2), .inr (some o), .inl 11, .inl (-1), .inl x, .inl dep] τ h (Zi τ fun v h' => v = (x + h o 2) - h o 3 ∧ h' = x_logs h [10]) := by
  refine S_go (k := 1) (ls := [some (.inr (some 2)), some (.inr (some o)), some (.inl 11), some (.inl (-1)), some (.inl x), some (.inl dep), none]) (by decide) rfl (Nat.le_of_ble_eq_true rfl) rfl ?_
  refine G_aload_n (i := 1) dX0_run_0 rfl rfl ?_
  refine G_getI (v := 0) fX0_19 rfl dX0_run_1 hP (hk) ?_
  refine G_istore (ls' := [some (.inr (some 2)), some (.inr (some o)), some (.inl 11), some (.inl (-1)), some (.inl x), some (.inl dep), some (.inl 0)]) dX0_run_4 (by decide) rfl ?_
  refine G_iload_n (i := 2) dX0_run_6 rfl rfl ?_
  refine G_lsw (off := 73) (tgt := 80) dX0_run_7 (by decide) (by decide) (by decide) (by decide) ?_
  refine G_aload_n (i := 0) dX0_run_80 rfl rfl ?_
  refine G_aload_n (i := 1) dX0_run_81 rfl rfl ?_
  refine G_iload dX0_run_82 rfl ?_
  refine G_iconst dX0_run_84 ?_
  refine G_iload dX0_run_85 rfl ?_
  refine G_iload dX0_run_87 rfl ?_
  refine G_cVi (as := [.inr (some o), .inl 0, .inl 0, .inl x, .inl dep]) qX0_24 (x_ask_0_0_0 d τ h hT o hP ho hk x dep (by first | omega | (simp only [x_logs_n, List.length_cons, List.length_nil]; omega)) (by omega)) rfl rfl (Nat.le_of_ble_eq_true rfl) (o2 hT) dX0_run_89 (fun v' h' e' => ?_)
  obtain ⟨rfl, rfl⟩ := e'
  refine G_aload_n (i := 1) dX0_run_92 rfl rfl ?_
  refine G_getI (v := h o 3) fX0_44 rfl dX0_run_93 hP (x_logs_o [10] (by omega)) ?_
  refine G_isub dX0_run_96 ?_
  refine G_iretZ rfl dX0_run_97 ?_
  exact ⟨by simp only [x_logs_o [10] (show o ≠ 2 ∧ o ≠ 3 by omega)], rfl⟩

theorem x_ask_0_0_1 (d : Nat) (τ : TT) (h : HT) (hT : TK τ) (o : Nat) (hP : ob_ τ o 5) (ho : 126 ≤ o) (hk : h o 1 = 0) (x dep : Int) (hra : 0 ≤ h 2 1 ∧ h 2 1 ≤ 900 - 20 * 3) (hdp : 0 ≤ dep ∧ dep ≤ 37) : S_ mX0_ask (d + 3) 0 0 [.inr (some 2), .inr (some o), .inl 0, .inl 1, .inl x, .inl dep] τ h (Zi τ fun v h' => v = (x + h o 2) - h o 3 ∧ h' = x_logs h [11, 10]) := by
  refine S_go (k := 2) (ls := [some (.inr (some 2)), some (.inr (some o)), some (.inl 0), some (.inl 1), some (.inl x), some (.inl dep), none, none]) (by decide) rfl (Nat.le_of_ble_eq_true rfl) rfl ?_
  refine G_iload_n (i := 2) dX0_ask_0 rfl rfl ?_
  refine G_istore (ls' := [some (.inr (some 2)), some (.inr (some o)), some (.inl 0), some (.inl 1), some (.inl x), some (.inl dep), some (.inl 0), none]) dX0_ask_1 (by decide) rfl ?_
  refine G_iconst dX0_ask_3 ?_
  refine G_istore (ls' := [some (.inr (some 2)), some (.inr (some o)), some (.inl 0), some (.inl 1), some (.inl x), some (.inl dep), some (.inl 0), some (.inl 0)]) dX0_ask_4 (by decide) rfl ?_
  refine G_iload dX0_ask_6 rfl ?_
  refine G_iconst dX0_ask_8 ?_
  refine G_icmp_ge (tgt := 44) dX0_ask_9 (by decide) (by decide) (by decide) (fun q => absurd q (by decide)) (fun _ => ?_)
  refine G_iload dX0_ask_12 rfl ?_
  refine G_if_le (tgt := 44) dX0_ask_14 (by decide) (by decide) (fun _ => ?_) (fun q => absurd q (by decide))
  refine G_iload dX0_ask_44 rfl ?_
  refine G_if_lt (tgt := 56) dX0_ask_46 (by decide) (by decide) (fun q => absurd q (by decide)) (fun _ => ?_)
  refine G_iload dX0_ask_49 rfl ?_
  refine G_bipush dX0_ask_51 (by decide) ?_
  refine G_icmp_le (tgt := 58) dX0_ask_53 (by decide) (by omega) (by decide) (fun c_1 => ?_) (fun c_1 => ?_)
  · refine G_getsB (by decide +kernel) dX0_ask_58 ?_
    refine G_iconst dX0_ask_61 ?_
    refine G_iload dX0_ask_62 rfl ?_
    refine G_imul dX0_ask_64 ?_
    refine G_iload_n (i := 3) dX0_ask_65 rfl rfl ?_
    refine G_iadd dX0_ask_66 ?_
    refine G_ialdBv (v := 11) dX0_ask_67 (by decide) rfl ?_
    refine G_istore (ls' := [some (.inr (some 2)), some (.inr (some o)), some (.inl 0), some (.inl 1), some (.inl x), some (.inl dep), some (.inl 0), some (.inl 11)]) dX0_ask_68 (by decide) rfl ?_
    refine G_aload_n (i := 0) dX0_ask_70 rfl rfl ?_
    refine G_iload dX0_ask_71 rfl ?_
    refine G_cVv (as := [.inl 11]) qX0_34 (x_noteM (d + 2) τ h hT 11 (by first | omega | (simp only [x_logs_n, List.length_cons, List.length_nil]; omega))) rfl rfl (Nat.le_of_ble_eq_true rfl) (o2 hT) dX0_ask_73 (fun h' e' => ?_)
    subst e'
    refine G_aload_n (i := 0) dX0_ask_76 rfl rfl ?_
    refine G_aload_n (i := 1) dX0_ask_77 rfl rfl ?_
    refine G_iload dX0_ask_78 rfl ?_
    refine G_getsK (by decide +kernel) dX0_ask_80 ?_
    refine G_iload dX0_ask_83 rfl ?_
    refine G_ialdKv (v := (-1)) dX0_ask_85 (by decide) rfl ?_
    refine G_iload dX0_ask_86 rfl ?_
    refine G_iload dX0_ask_88 rfl ?_
    refine G_iconst dX0_ask_90 ?_
    refine G_iadd dX0_ask_91 ?_
    refine G_cVi (as := [.inr (some o), .inl 11, .inl (-1), .inl x, .inl (dep + 1)]) qX0_38 (x_run_0_11 d τ (x_logs h [11]) hT o hP ho (by rw [x_logs_o [11] (by omega)]; exact hk) x (dep + 1) (by first | omega | (simp only [x_logs_n, List.length_cons, List.length_nil]; omega)) (by omega)) rfl rfl (Nat.le_of_ble_eq_true rfl) (o2 hT) dX0_ask_92 (fun v' h' e' => ?_)
    obtain ⟨rfl, rfl⟩ := e'
    refine G_iretZ rfl dX0_ask_95 ?_
    exact ⟨by simp only [x_logs_o [11] (show o ≠ 2 ∧ o ≠ 3 by omega)], rfl⟩
  · refine G_iconst dX0_ask_56 ?_
    refine G_iretZ rfl dX0_ask_57 ?_
    exfalso; omega

theorem x_run_0_12 (d : Nat) (τ : TT) (h : HT) (hT : TK τ) (o : Nat) (hP : ob_ τ o 5) (ho : 126 ≤ o) (hk : h o 1 = 0) (x dep : Int) (hra : 0 ≤ h 2 1 ∧ h 2 1 ≤ 900 - 20 * 4) (hdp : 0 ≤ dep ∧ dep ≤ 36) : S_ mX0_run (d + 4) 0 0 [.inr (some 2), .inr (some o), .inl 12, .inl (-1), .inl x, .inl dep] τ h (Zi τ fun v h' => v = b_xor ((x + h o 2) - h o 3) (h o 0) ∧ h' = x_logs h [11, 10]) := by
  refine S_go (k := 1) (ls := [some (.inr (some 2)), some (.inr (some o)), some (.inl 12), some (.inl (-1)), some (.inl x), some (.inl dep), none]) (by decide) rfl (Nat.le_of_ble_eq_true rfl) rfl ?_
  refine G_aload_n (i := 1) dX0_run_0 rfl rfl ?_
  refine G_getI (v := 0) fX0_19 rfl dX0_run_1 hP (hk) ?_
  refine G_istore (ls' := [some (.inr (some 2)), some (.inr (some o)), some (.inl 12), some (.inl (-1)), some (.inl x), some (.inl dep), some (.inl 0)]) dX0_run_4 (by decide) rfl ?_
  refine G_iload_n (i := 2) dX0_run_6 rfl rfl ?_
  refine G_lsw (off := 91) (tgt := 98) dX0_run_7 (by decide) (by decide) (by decide) (by decide) ?_
  refine G_aload_n (i := 0) dX0_run_98 rfl rfl ?_
  refine G_aload_n (i := 1) dX0_run_99 rfl rfl ?_
  refine G_iload dX0_run_100 rfl ?_
  refine G_iconst dX0_run_102 ?_
  refine G_iload dX0_run_103 rfl ?_
  refine G_iload dX0_run_105 rfl ?_
  refine G_cVi (as := [.inr (some o), .inl 0, .inl 1, .inl x, .inl dep]) qX0_24 (x_ask_0_0_1 d τ h hT o hP ho hk x dep (by first | omega | (simp only [x_logs_n, List.length_cons, List.length_nil]; omega)) (by omega)) rfl rfl (Nat.le_of_ble_eq_true rfl) (o2 hT) dX0_run_107 (fun v' h' e' => ?_)
  obtain ⟨rfl, rfl⟩ := e'
  refine G_aload_n (i := 1) dX0_run_110 rfl rfl ?_
  refine G_getI (v := h o 0) fX0_47 rfl dX0_run_111 hP (x_logs_o [11, 10] (by omega)) ?_
  refine G_ixor dX0_run_114 ?_
  refine G_iretZ rfl dX0_run_115 ?_
  exact ⟨by simp only [x_logs_o [11, 10] (show o ≠ 2 ∧ o ≠ 3 by omega)], rfl⟩

theorem x_ask_0_0_2 (d : Nat) (τ : TT) (h : HT) (hT : TK τ) (o : Nat) (hP : ob_ τ o 5) (ho : 126 ≤ o) (hk : h o 1 = 0) (x dep : Int) (hra : 0 ≤ h 2 1 ∧ h 2 1 ≤ 900 - 20 * 5) (hdp : 0 ≤ dep ∧ dep ≤ 35) : S_ mX0_ask (d + 5) 0 0 [.inr (some 2), .inr (some o), .inl 0, .inl 2, .inl x, .inl dep] τ h (Zi τ fun v h' => v = b_xor ((x + h o 2) - h o 3) (h o 0) ∧ h' = x_logs h [12, 11, 10]) := by
  refine S_go (k := 2) (ls := [some (.inr (some 2)), some (.inr (some o)), some (.inl 0), some (.inl 2), some (.inl x), some (.inl dep), none, none]) (by decide) rfl (Nat.le_of_ble_eq_true rfl) rfl ?_
  refine G_iload_n (i := 2) dX0_ask_0 rfl rfl ?_
  refine G_istore (ls' := [some (.inr (some 2)), some (.inr (some o)), some (.inl 0), some (.inl 2), some (.inl x), some (.inl dep), some (.inl 0), none]) dX0_ask_1 (by decide) rfl ?_
  refine G_iconst dX0_ask_3 ?_
  refine G_istore (ls' := [some (.inr (some 2)), some (.inr (some o)), some (.inl 0), some (.inl 2), some (.inl x), some (.inl dep), some (.inl 0), some (.inl 0)]) dX0_ask_4 (by decide) rfl ?_
  refine G_iload dX0_ask_6 rfl ?_
  refine G_iconst dX0_ask_8 ?_
  refine G_icmp_ge (tgt := 44) dX0_ask_9 (by decide) (by decide) (by decide) (fun q => absurd q (by decide)) (fun _ => ?_)
  refine G_iload dX0_ask_12 rfl ?_
  refine G_if_le (tgt := 44) dX0_ask_14 (by decide) (by decide) (fun _ => ?_) (fun q => absurd q (by decide))
  refine G_iload dX0_ask_44 rfl ?_
  refine G_if_lt (tgt := 56) dX0_ask_46 (by decide) (by decide) (fun q => absurd q (by decide)) (fun _ => ?_)
  refine G_iload dX0_ask_49 rfl ?_
  refine G_bipush dX0_ask_51 (by decide) ?_
  refine G_icmp_le (tgt := 58) dX0_ask_53 (by decide) (by omega) (by decide) (fun c_1 => ?_) (fun c_1 => ?_)
  · refine G_getsB (by decide +kernel) dX0_ask_58 ?_
    refine G_iconst dX0_ask_61 ?_
    refine G_iload dX0_ask_62 rfl ?_
    refine G_imul dX0_ask_64 ?_
    refine G_iload_n (i := 3) dX0_ask_65 rfl rfl ?_
    refine G_iadd dX0_ask_66 ?_
    refine G_ialdBv (v := 12) dX0_ask_67 (by decide) rfl ?_
    refine G_istore (ls' := [some (.inr (some 2)), some (.inr (some o)), some (.inl 0), some (.inl 2), some (.inl x), some (.inl dep), some (.inl 0), some (.inl 12)]) dX0_ask_68 (by decide) rfl ?_
    refine G_aload_n (i := 0) dX0_ask_70 rfl rfl ?_
    refine G_iload dX0_ask_71 rfl ?_
    refine G_cVv (as := [.inl 12]) qX0_34 (x_noteM (d + 4) τ h hT 12 (by first | omega | (simp only [x_logs_n, List.length_cons, List.length_nil]; omega))) rfl rfl (Nat.le_of_ble_eq_true rfl) (o2 hT) dX0_ask_73 (fun h' e' => ?_)
    subst e'
    refine G_aload_n (i := 0) dX0_ask_76 rfl rfl ?_
    refine G_aload_n (i := 1) dX0_ask_77 rfl rfl ?_
    refine G_iload dX0_ask_78 rfl ?_
    refine G_getsK (by decide +kernel) dX0_ask_80 ?_
    refine G_iload dX0_ask_83 rfl ?_
    refine G_ialdKv (v := (-1)) dX0_ask_85 (by decide) rfl ?_
    refine G_iload dX0_ask_86 rfl ?_
    refine G_iload dX0_ask_88 rfl ?_
    refine G_iconst dX0_ask_90 ?_
    refine G_iadd dX0_ask_91 ?_
    refine G_cVi (as := [.inr (some o), .inl 12, .inl (-1), .inl x, .inl (dep + 1)]) qX0_38 (x_run_0_12 d τ (x_logs h [12]) hT o hP ho (by rw [x_logs_o [12] (by omega)]; exact hk) x (dep + 1) (by first | omega | (simp only [x_logs_n, List.length_cons, List.length_nil]; omega)) (by omega)) rfl rfl (Nat.le_of_ble_eq_true rfl) (o2 hT) dX0_ask_92 (fun v' h' e' => ?_)
    obtain ⟨rfl, rfl⟩ := e'
    refine G_iretZ rfl dX0_ask_95 ?_
    exact ⟨by simp only [x_logs_o [12] (show o ≠ 2 ∧ o ≠ 3 by omega)], rfl⟩
  · refine G_iconst dX0_ask_56 ?_
    refine G_iretZ rfl dX0_ask_57 ?_
    exfalso; omega

theorem x_run_1_10 (d : Nat) (τ : TT) (h : HT) (hT : TK τ) (o : Nat) (hP : ob_ τ o 5) (ho : 126 ≤ o) (hk : h o 1 = 1) (x dep : Int) (hra : 0 ≤ h 2 1 ∧ h 2 1 ≤ 900 - 20 * 0) (hdp : 0 ≤ dep ∧ dep ≤ 40) : S_ mX0_run d 0 0 [.inr (some 2), .inr (some o), .inl 10, .inl (-1), .inl x, .inl dep] τ h (Zi τ fun v h' => v = x + h o 2 ∧ h' = x_logs h []) := by
  refine S_go (k := 1) (ls := [some (.inr (some 2)), some (.inr (some o)), some (.inl 10), some (.inl (-1)), some (.inl x), some (.inl dep), none]) (by decide) rfl (Nat.le_of_ble_eq_true rfl) rfl ?_
  refine G_aload_n (i := 1) dX0_run_0 rfl rfl ?_
  refine G_getI (v := 1) fX0_19 rfl dX0_run_1 hP (hk) ?_
  refine G_istore (ls' := [some (.inr (some 2)), some (.inr (some o)), some (.inl 10), some (.inl (-1)), some (.inl x), some (.inl dep), some (.inl 1)]) dX0_run_4 (by decide) rfl ?_
  refine G_iload_n (i := 2) dX0_run_6 rfl rfl ?_
  refine G_lsw (off := 65) (tgt := 72) dX0_run_7 (by decide) (by decide) (by decide) (by decide) ?_
  refine G_iload dX0_run_72 rfl ?_
  refine G_aload_n (i := 1) dX0_run_74 rfl rfl ?_
  refine G_getI (v := h o 2) fX0_41 rfl dX0_run_75 hP rfl ?_
  refine G_iadd dX0_run_78 ?_
  refine G_iretZ rfl dX0_run_79 ?_
  exact ⟨rfl, rfl⟩

theorem x_ask_1_0_0 (d : Nat) (τ : TT) (h : HT) (hT : TK τ) (o : Nat) (hP : ob_ τ o 5) (ho : 126 ≤ o) (hk : h o 1 = 1) (x dep : Int) (hra : 0 ≤ h 2 1 ∧ h 2 1 ≤ 900 - 20 * 1) (hdp : 0 ≤ dep ∧ dep ≤ 39) : S_ mX0_ask (d + 1) 0 0 [.inr (some 2), .inr (some o), .inl 0, .inl 0, .inl x, .inl dep] τ h (Zi τ fun v h' => v = x + h o 2 ∧ h' = x_logs h [10]) := by
  refine S_go (k := 2) (ls := [some (.inr (some 2)), some (.inr (some o)), some (.inl 0), some (.inl 0), some (.inl x), some (.inl dep), none, none]) (by decide) rfl (Nat.le_of_ble_eq_true rfl) rfl ?_
  refine G_iload_n (i := 2) dX0_ask_0 rfl rfl ?_
  refine G_istore (ls' := [some (.inr (some 2)), some (.inr (some o)), some (.inl 0), some (.inl 0), some (.inl x), some (.inl dep), some (.inl 0), none]) dX0_ask_1 (by decide) rfl ?_
  refine G_iconst dX0_ask_3 ?_
  refine G_istore (ls' := [some (.inr (some 2)), some (.inr (some o)), some (.inl 0), some (.inl 0), some (.inl x), some (.inl dep), some (.inl 0), some (.inl 0)]) dX0_ask_4 (by decide) rfl ?_
  refine G_iload dX0_ask_6 rfl ?_
  refine G_iconst dX0_ask_8 ?_
  refine G_icmp_ge (tgt := 44) dX0_ask_9 (by decide) (by decide) (by decide) (fun q => absurd q (by decide)) (fun _ => ?_)
  refine G_iload dX0_ask_12 rfl ?_
  refine G_if_le (tgt := 44) dX0_ask_14 (by decide) (by decide) (fun _ => ?_) (fun q => absurd q (by decide))
  refine G_iload dX0_ask_44 rfl ?_
  refine G_if_lt (tgt := 56) dX0_ask_46 (by decide) (by decide) (fun q => absurd q (by decide)) (fun _ => ?_)
  refine G_iload dX0_ask_49 rfl ?_
  refine G_bipush dX0_ask_51 (by decide) ?_
  refine G_icmp_le (tgt := 58) dX0_ask_53 (by decide) (by omega) (by decide) (fun c_1 => ?_) (fun c_1 => ?_)
  · refine G_getsB (by decide +kernel) dX0_ask_58 ?_
    refine G_iconst dX0_ask_61 ?_
    refine G_iload dX0_ask_62 rfl ?_
    refine G_imul dX0_ask_64 ?_
    refine G_iload_n (i := 3) dX0_ask_65 rfl rfl ?_
    refine G_iadd dX0_ask_66 ?_
    refine G_ialdBv (v := 10) dX0_ask_67 (by decide) rfl ?_
    refine G_istore (ls' := [some (.inr (some 2)), some (.inr (some o)), some (.inl 0), some (.inl 0), some (.inl x), some (.inl dep), some (.inl 0), some (.inl 10)]) dX0_ask_68 (by decide) rfl ?_
    refine G_aload_n (i := 0) dX0_ask_70 rfl rfl ?_
    refine G_iload dX0_ask_71 rfl ?_
    refine G_cVv (as := [.inl 10]) qX0_34 (x_noteM d τ h hT 10 (by first | omega | (simp only [x_logs_n, List.length_cons, List.length_nil]; omega))) rfl rfl (Nat.le_of_ble_eq_true rfl) (o2 hT) dX0_ask_73 (fun h' e' => ?_)
    subst e'
    refine G_aload_n (i := 0) dX0_ask_76 rfl rfl ?_
    refine G_aload_n (i := 1) dX0_ask_77 rfl rfl ?_
    refine G_iload dX0_ask_78 rfl ?_
    refine G_getsK (by decide +kernel) dX0_ask_80 ?_
    refine G_iload dX0_ask_83 rfl ?_
    refine G_ialdKv (v := (-1)) dX0_ask_85 (by decide) rfl ?_
    refine G_iload dX0_ask_86 rfl ?_
    refine G_iload dX0_ask_88 rfl ?_
    refine G_iconst dX0_ask_90 ?_
    refine G_iadd dX0_ask_91 ?_
    refine G_cVi (as := [.inr (some o), .inl 10, .inl (-1), .inl x, .inl (dep + 1)]) qX0_38 (x_run_1_10 d τ (x_logs h [10]) hT o hP ho (by rw [x_logs_o [10] (by omega)]; exact hk) x (dep + 1) (by first | omega | (simp only [x_logs_n, List.length_cons, List.length_nil]; omega)) (by omega)) rfl rfl (Nat.le_of_ble_eq_true rfl) (o2 hT) dX0_ask_92 (fun v' h' e' => ?_)
    obtain ⟨rfl, rfl⟩ := e'
    refine G_iretZ rfl dX0_ask_95 ?_
    exact ⟨by simp only [x_logs_o [10] (show o ≠ 2 ∧ o ≠ 3 by omega)], rfl⟩
  · refine G_iconst dX0_ask_56 ?_
    refine G_iretZ rfl dX0_ask_57 ?_
    exfalso; omega

theorem x_run_1_20 (d : Nat) (τ : TT) (h : HT) (hT : TK τ) (o : Nat) (hP : ob_ τ o 5) (ho : 126 ≤ o) (hk : h o 1 = 1) (x dep : Int) (hra : 0 ≤ h 2 1 ∧ h 2 1 ≤ 900 - 20 * 2) (hdp : 0 ≤ dep ∧ dep ≤ 38) : S_ mX0_run (d + 2) 0 0 [.inr (some 2), .inr (some o), .inl 20, .inl 0, .inl x, .inl dep] τ h (Zi τ fun v h' => v = (x + h o 2) - 4 ∧ h' = x_logs h [10]) := by
  refine S_go (k := 1) (ls := [some (.inr (some 2)), some (.inr (some o)), some (.inl 20), some (.inl 0), some (.inl x), some (.inl dep), none]) (by decide) rfl (Nat.le_of_ble_eq_true rfl) rfl ?_
  refine G_aload_n (i := 1) dX0_run_0 rfl rfl ?_
  refine G_getI (v := 1) fX0_19 rfl dX0_run_1 hP (hk) ?_
  refine G_istore (ls' := [some (.inr (some 2)), some (.inr (some o)), some (.inl 20), some (.inl 0), some (.inl x), some (.inl dep), some (.inl 1)]) dX0_run_4 (by decide) rfl ?_
  refine G_iload_n (i := 2) dX0_run_6 rfl rfl ?_
  refine G_lsw (off := 109) (tgt := 116) dX0_run_7 (by decide) (by decide) (by decide) (by decide) ?_
  refine G_aload_n (i := 0) dX0_run_116 rfl rfl ?_
  refine G_aload_n (i := 1) dX0_run_117 rfl rfl ?_
  refine G_iload_n (i := 3) dX0_run_118 rfl rfl ?_
  refine G_iconst dX0_run_119 ?_
  refine G_iload dX0_run_120 rfl ?_
  refine G_iload dX0_run_122 rfl ?_
  refine G_cVi (as := [.inr (some o), .inl 0, .inl 0, .inl x, .inl dep]) qX0_24 (x_ask_1_0_0 d τ h hT o hP ho hk x dep (by first | omega | (simp only [x_logs_n, List.length_cons, List.length_nil]; omega)) (by omega)) rfl rfl (Nat.le_of_ble_eq_true rfl) (o2 hT) dX0_run_124 (fun v' h' e' => ?_)
  obtain ⟨rfl, rfl⟩ := e'
  refine G_iconst dX0_run_127 ?_
  refine G_isub dX0_run_128 ?_
  refine G_iretZ rfl dX0_run_129 ?_
  exact ⟨rfl, rfl⟩

theorem x_ask_1_1_0 (d : Nat) (τ : TT) (h : HT) (hT : TK τ) (o : Nat) (hP : ob_ τ o 5) (ho : 126 ≤ o) (hk : h o 1 = 1) (x dep : Int) (hra : 0 ≤ h 2 1 ∧ h 2 1 ≤ 900 - 20 * 3) (hdp : 0 ≤ dep ∧ dep ≤ 37) : S_ mX0_ask (d + 3) 0 0 [.inr (some 2), .inr (some o), .inl 1, .inl 0, .inl x, .inl dep] τ h (Zi τ fun v h' => v = (x + h o 2) - 4 ∧ h' = x_logs h [20, 10]) := by
  refine S_go (k := 2) (ls := [some (.inr (some 2)), some (.inr (some o)), some (.inl 1), some (.inl 0), some (.inl x), some (.inl dep), none, none]) (by decide) rfl (Nat.le_of_ble_eq_true rfl) rfl ?_
  refine G_iload_n (i := 2) dX0_ask_0 rfl rfl ?_
  refine G_istore (ls' := [some (.inr (some 2)), some (.inr (some o)), some (.inl 1), some (.inl 0), some (.inl x), some (.inl dep), some (.inl 1), none]) dX0_ask_1 (by decide) rfl ?_
  refine G_iconst dX0_ask_3 ?_
  refine G_istore (ls' := [some (.inr (some 2)), some (.inr (some o)), some (.inl 1), some (.inl 0), some (.inl x), some (.inl dep), some (.inl 1), some (.inl 0)]) dX0_ask_4 (by decide) rfl ?_
  refine G_iload dX0_ask_6 rfl ?_
  refine G_iconst dX0_ask_8 ?_
  refine G_icmp_ge (tgt := 44) dX0_ask_9 (by decide) (by decide) (by decide) (fun q => absurd q (by decide)) (fun _ => ?_)
  refine G_iload dX0_ask_12 rfl ?_
  refine G_if_le (tgt := 44) dX0_ask_14 (by decide) (by decide) (fun q => absurd q (by decide)) (fun _ => ?_)
  refine G_getsB (by decide +kernel) dX0_ask_17 ?_
  refine G_iconst dX0_ask_20 ?_
  refine G_iload dX0_ask_21 rfl ?_
  refine G_imul dX0_ask_23 ?_
  refine G_iload_n (i := 3) dX0_ask_24 rfl rfl ?_
  refine G_iadd dX0_ask_25 ?_
  refine G_ialdBv (v := 20) dX0_ask_26 (by decide) rfl ?_
  refine G_if_ne (tgt := 44) dX0_ask_27 (by decide) (by decide) (fun _ => ?_) (fun q => absurd q (by decide))
  refine G_iload dX0_ask_44 rfl ?_
  refine G_if_lt (tgt := 56) dX0_ask_46 (by decide) (by decide) (fun q => absurd q (by decide)) (fun _ => ?_)
  refine G_iload dX0_ask_49 rfl ?_
  refine G_bipush dX0_ask_51 (by decide) ?_
  refine G_icmp_le (tgt := 58) dX0_ask_53 (by decide) (by omega) (by decide) (fun c_1 => ?_) (fun c_1 => ?_)
  · refine G_getsB (by decide +kernel) dX0_ask_58 ?_
    refine G_iconst dX0_ask_61 ?_
    refine G_iload dX0_ask_62 rfl ?_
    refine G_imul dX0_ask_64 ?_
    refine G_iload_n (i := 3) dX0_ask_65 rfl rfl ?_
    refine G_iadd dX0_ask_66 ?_
    refine G_ialdBv (v := 20) dX0_ask_67 (by decide) rfl ?_
    refine G_istore (ls' := [some (.inr (some 2)), some (.inr (some o)), some (.inl 1), some (.inl 0), some (.inl x), some (.inl dep), some (.inl 1), some (.inl 20)]) dX0_ask_68 (by decide) rfl ?_
    refine G_aload_n (i := 0) dX0_ask_70 rfl rfl ?_
    refine G_iload dX0_ask_71 rfl ?_
    refine G_cVv (as := [.inl 20]) qX0_34 (x_noteM (d + 2) τ h hT 20 (by first | omega | (simp only [x_logs_n, List.length_cons, List.length_nil]; omega))) rfl rfl (Nat.le_of_ble_eq_true rfl) (o2 hT) dX0_ask_73 (fun h' e' => ?_)
    subst e'
    refine G_aload_n (i := 0) dX0_ask_76 rfl rfl ?_
    refine G_aload_n (i := 1) dX0_ask_77 rfl rfl ?_
    refine G_iload dX0_ask_78 rfl ?_
    refine G_getsK (by decide +kernel) dX0_ask_80 ?_
    refine G_iload dX0_ask_83 rfl ?_
    refine G_ialdKv (v := 0) dX0_ask_85 (by decide) rfl ?_
    refine G_iload dX0_ask_86 rfl ?_
    refine G_iload dX0_ask_88 rfl ?_
    refine G_iconst dX0_ask_90 ?_
    refine G_iadd dX0_ask_91 ?_
    refine G_cVi (as := [.inr (some o), .inl 20, .inl 0, .inl x, .inl (dep + 1)]) qX0_38 (x_run_1_20 d τ (x_logs h [20]) hT o hP ho (by rw [x_logs_o [20] (by omega)]; exact hk) x (dep + 1) (by first | omega | (simp only [x_logs_n, List.length_cons, List.length_nil]; omega)) (by omega)) rfl rfl (Nat.le_of_ble_eq_true rfl) (o2 hT) dX0_ask_92 (fun v' h' e' => ?_)
    obtain ⟨rfl, rfl⟩ := e'
    refine G_iretZ rfl dX0_ask_95 ?_
    exact ⟨by simp only [x_logs_o [20] (show o ≠ 2 ∧ o ≠ 3 by omega)], rfl⟩
  · refine G_iconst dX0_ask_56 ?_
    refine G_iretZ rfl dX0_ask_57 ?_
    exfalso; omega

theorem x_run_1_11 (d : Nat) (τ : TT) (h : HT) (hT : TK τ) (o : Nat) (hP : ob_ τ o 5) (ho : 126 ≤ o) (hk : h o 1 = 1) (x dep : Int) (hra : 0 ≤ h 2 1 ∧ h 2 1 ≤ 900 - 20 * 4) (hdp : 0 ≤ dep ∧ dep ≤ 36) : S_ mX0_run (d + 4) 0 0 [.inr (some 2), .inr (some o), .inl 11, .inl (-1), .inl x, .inl dep] τ h (Zi τ fun v h' => v = ((x + h o 2) - 4) - h o 3 ∧ h' = x_logs h [20, 10]) := by
  refine S_go (k := 1) (ls := [some (.inr (some 2)), some (.inr (some o)), some (.inl 11), some (.inl (-1)), some (.inl x), some (.inl dep), none]) (by decide) rfl (Nat.le_of_ble_eq_true rfl) rfl ?_
  refine G_aload_n (i := 1) dX0_run_0 rfl rfl ?_
  refine G_getI (v := 1) fX0_19 rfl dX0_run_1 hP (hk) ?_
  refine G_istore (ls' := [some (.inr (some 2)), some (.inr (some o)), some (.inl 11), some (.inl (-1)), some (.inl x), some (.inl dep), some (.inl 1)]) dX0_run_4 (by decide) rfl ?_
  refine G_iload_n (i := 2) dX0_run_6 rfl rfl ?_
  refine G_lsw (off := 73) (tgt := 80) dX0_run_7 (by decide) (by decide) (by decide) (by decide) ?_
  refine G_aload_n (i := 0) dX0_run_80 rfl rfl ?_
  refine G_aload_n (i := 1) dX0_run_81 rfl rfl ?_
  refine G_iload dX0_run_82 rfl ?_
  refine G_iconst dX0_run_84 ?_
  refine G_iload dX0_run_85 rfl ?_
  refine G_iload dX0_run_87 rfl ?_
  refine G_cVi (as := [.inr (some o), .inl 1, .inl 0, .inl x, .inl dep]) qX0_24 (x_ask_1_1_0 d τ h hT o hP ho hk x dep (by first | omega | (simp only [x_logs_n, List.length_cons, List.length_nil]; omega)) (by omega)) rfl rfl (Nat.le_of_ble_eq_true rfl) (o2 hT) dX0_run_89 (fun v' h' e' => ?_)
  obtain ⟨rfl, rfl⟩ := e'
  refine G_aload_n (i := 1) dX0_run_92 rfl rfl ?_
  refine G_getI (v := h o 3) fX0_44 rfl dX0_run_93 hP (x_logs_o [20, 10] (by omega)) ?_
  refine G_isub dX0_run_96 ?_
  refine G_iretZ rfl dX0_run_97 ?_
  exact ⟨by simp only [x_logs_o [20, 10] (show o ≠ 2 ∧ o ≠ 3 by omega)], rfl⟩

theorem x_ask_1_1_1 (d : Nat) (τ : TT) (h : HT) (hT : TK τ) (o : Nat) (hP : ob_ τ o 5) (ho : 126 ≤ o) (hk : h o 1 = 1) (x dep : Int) (hra : 0 ≤ h 2 1 ∧ h 2 1 ≤ 900 - 20 * 5) (hdp : 0 ≤ dep ∧ dep ≤ 35) : S_ mX0_ask (d + 5) 0 0 [.inr (some 2), .inr (some o), .inl 1, .inl 1, .inl x, .inl dep] τ h (Zi τ fun v h' => v = ((x + h o 2) - 4) - h o 3 ∧ h' = x_logs h [11, 20, 10]) := by
  refine S_go (k := 2) (ls := [some (.inr (some 2)), some (.inr (some o)), some (.inl 1), some (.inl 1), some (.inl x), some (.inl dep), none, none]) (by decide) rfl (Nat.le_of_ble_eq_true rfl) rfl ?_
  refine G_iload_n (i := 2) dX0_ask_0 rfl rfl ?_
  refine G_istore (ls' := [some (.inr (some 2)), some (.inr (some o)), some (.inl 1), some (.inl 1), some (.inl x), some (.inl dep), some (.inl 1), none]) dX0_ask_1 (by decide) rfl ?_
  refine G_iconst dX0_ask_3 ?_
  refine G_istore (ls' := [some (.inr (some 2)), some (.inr (some o)), some (.inl 1), some (.inl 1), some (.inl x), some (.inl dep), some (.inl 1), some (.inl 0)]) dX0_ask_4 (by decide) rfl ?_
  refine G_iload dX0_ask_6 rfl ?_
  refine G_iconst dX0_ask_8 ?_
  refine G_icmp_ge (tgt := 44) dX0_ask_9 (by decide) (by decide) (by decide) (fun q => absurd q (by decide)) (fun _ => ?_)
  refine G_iload dX0_ask_12 rfl ?_
  refine G_if_le (tgt := 44) dX0_ask_14 (by decide) (by decide) (fun q => absurd q (by decide)) (fun _ => ?_)
  refine G_getsB (by decide +kernel) dX0_ask_17 ?_
  refine G_iconst dX0_ask_20 ?_
  refine G_iload dX0_ask_21 rfl ?_
  refine G_imul dX0_ask_23 ?_
  refine G_iload_n (i := 3) dX0_ask_24 rfl rfl ?_
  refine G_iadd dX0_ask_25 ?_
  refine G_ialdBv (v := 0) dX0_ask_26 (by decide) rfl ?_
  refine G_if_ne (tgt := 44) dX0_ask_27 (by decide) (by decide) (fun q => absurd q (by decide)) (fun _ => ?_)
  refine G_getsK (by decide +kernel) dX0_ask_30 ?_
  refine G_iload dX0_ask_33 rfl ?_
  refine G_ialdKv (v := 0) dX0_ask_35 (by decide) rfl ?_
  refine G_istore (ls' := [some (.inr (some 2)), some (.inr (some o)), some (.inl 1), some (.inl 1), some (.inl x), some (.inl dep), some (.inl 0), some (.inl 0)]) dX0_ask_36 (by decide) rfl ?_
  refine G_iinc (ls' := [some (.inr (some 2)), some (.inr (some o)), some (.inl 1), some (.inl 1), some (.inl x), some (.inl dep), some (.inl 0), some (.inl (0 + 1))]) dX0_ask_38 (by decide) rfl rfl ?_
  refine G_goto (tgt := 6) dX0_ask_41 (by decide) ?_
  refine G_iload dX0_ask_6 rfl ?_
  refine G_iconst dX0_ask_8 ?_
  refine G_icmp_ge (tgt := 44) dX0_ask_9 (by decide) (by decide) (by decide) (fun q => absurd q (by decide)) (fun _ => ?_)
  refine G_iload dX0_ask_12 rfl ?_
  refine G_if_le (tgt := 44) dX0_ask_14 (by decide) (by decide) (fun _ => ?_) (fun q => absurd q (by decide))
  refine G_iload dX0_ask_44 rfl ?_
  refine G_if_lt (tgt := 56) dX0_ask_46 (by decide) (by decide) (fun q => absurd q (by decide)) (fun _ => ?_)
  refine G_iload dX0_ask_49 rfl ?_
  refine G_bipush dX0_ask_51 (by decide) ?_
  refine G_icmp_le (tgt := 58) dX0_ask_53 (by decide) (by omega) (by decide) (fun c_1 => ?_) (fun c_1 => ?_)
  · refine G_getsB (by decide +kernel) dX0_ask_58 ?_
    refine G_iconst dX0_ask_61 ?_
    refine G_iload dX0_ask_62 rfl ?_
    refine G_imul dX0_ask_64 ?_
    refine G_iload_n (i := 3) dX0_ask_65 rfl rfl ?_
    refine G_iadd dX0_ask_66 ?_
    refine G_ialdBv (v := 11) dX0_ask_67 (by decide) rfl ?_
    refine G_istore (ls' := [some (.inr (some 2)), some (.inr (some o)), some (.inl 1), some (.inl 1), some (.inl x), some (.inl dep), some (.inl 0), some (.inl 11)]) dX0_ask_68 (by decide) rfl ?_
    refine G_aload_n (i := 0) dX0_ask_70 rfl rfl ?_
    refine G_iload dX0_ask_71 rfl ?_
    refine G_cVv (as := [.inl 11]) qX0_34 (x_noteM (d + 4) τ h hT 11 (by first | omega | (simp only [x_logs_n, List.length_cons, List.length_nil]; omega))) rfl rfl (Nat.le_of_ble_eq_true rfl) (o2 hT) dX0_ask_73 (fun h' e' => ?_)
    subst e'
    refine G_aload_n (i := 0) dX0_ask_76 rfl rfl ?_
    refine G_aload_n (i := 1) dX0_ask_77 rfl rfl ?_
    refine G_iload dX0_ask_78 rfl ?_
    refine G_getsK (by decide +kernel) dX0_ask_80 ?_
    refine G_iload dX0_ask_83 rfl ?_
    refine G_ialdKv (v := (-1)) dX0_ask_85 (by decide) rfl ?_
    refine G_iload dX0_ask_86 rfl ?_
    refine G_iload dX0_ask_88 rfl ?_
    refine G_iconst dX0_ask_90 ?_
    refine G_iadd dX0_ask_91 ?_
    refine G_cVi (as := [.inr (some o), .inl 11, .inl (-1), .inl x, .inl (dep + 1)]) qX0_38 (x_run_1_11 d τ (x_logs h [11]) hT o hP ho (by rw [x_logs_o [11] (by omega)]; exact hk) x (dep + 1) (by first | omega | (simp only [x_logs_n, List.length_cons, List.length_nil]; omega)) (by omega)) rfl rfl (Nat.le_of_ble_eq_true rfl) (o2 hT) dX0_ask_92 (fun v' h' e' => ?_)
    obtain ⟨rfl, rfl⟩ := e'
    refine G_iretZ rfl dX0_ask_95 ?_
    exact ⟨by simp only [x_logs_o [11] (show o ≠ 2 ∧ o ≠ 3 by omega)], rfl⟩
  · refine G_iconst dX0_ask_56 ?_
    refine G_iretZ rfl dX0_ask_57 ?_
    exfalso; omega

theorem x_run_1_12 (d : Nat) (τ : TT) (h : HT) (hT : TK τ) (o : Nat) (hP : ob_ τ o 5) (ho : 126 ≤ o) (hk : h o 1 = 1) (x dep : Int) (hra : 0 ≤ h 2 1 ∧ h 2 1 ≤ 900 - 20 * 6) (hdp : 0 ≤ dep ∧ dep ≤ 34) : S_ mX0_run (d + 6) 0 0 [.inr (some 2), .inr (some o), .inl 12, .inl (-1), .inl x, .inl dep] τ h (Zi τ fun v h' => v = b_xor (((x + h o 2) - 4) - h o 3) (h o 0) ∧ h' = x_logs h [11, 20, 10]) := by
  refine S_go (k := 1) (ls := [some (.inr (some 2)), some (.inr (some o)), some (.inl 12), some (.inl (-1)), some (.inl x), some (.inl dep), none]) (by decide) rfl (Nat.le_of_ble_eq_true rfl) rfl ?_
  refine G_aload_n (i := 1) dX0_run_0 rfl rfl ?_
  refine G_getI (v := 1) fX0_19 rfl dX0_run_1 hP (hk) ?_
  refine G_istore (ls' := [some (.inr (some 2)), some (.inr (some o)), some (.inl 12), some (.inl (-1)), some (.inl x), some (.inl dep), some (.inl 1)]) dX0_run_4 (by decide) rfl ?_
  refine G_iload_n (i := 2) dX0_run_6 rfl rfl ?_
  refine G_lsw (off := 91) (tgt := 98) dX0_run_7 (by decide) (by decide) (by decide) (by decide) ?_
  refine G_aload_n (i := 0) dX0_run_98 rfl rfl ?_
  refine G_aload_n (i := 1) dX0_run_99 rfl rfl ?_
  refine G_iload dX0_run_100 rfl ?_
  refine G_iconst dX0_run_102 ?_
  refine G_iload dX0_run_103 rfl ?_
  refine G_iload dX0_run_105 rfl ?_
  refine G_cVi (as := [.inr (some o), .inl 1, .inl 1, .inl x, .inl dep]) qX0_24 (x_ask_1_1_1 d τ h hT o hP ho hk x dep (by first | omega | (simp only [x_logs_n, List.length_cons, List.length_nil]; omega)) (by omega)) rfl rfl (Nat.le_of_ble_eq_true rfl) (o2 hT) dX0_run_107 (fun v' h' e' => ?_)
  obtain ⟨rfl, rfl⟩ := e'
  refine G_aload_n (i := 1) dX0_run_110 rfl rfl ?_
  refine G_getI (v := h o 0) fX0_47 rfl dX0_run_111 hP (x_logs_o [11, 20, 10] (by omega)) ?_
  refine G_ixor dX0_run_114 ?_
  refine G_iretZ rfl dX0_run_115 ?_
  exact ⟨by simp only [x_logs_o [11, 20, 10] (show o ≠ 2 ∧ o ≠ 3 by omega)], rfl⟩

theorem x_ask_1_1_2 (d : Nat) (τ : TT) (h : HT) (hT : TK τ) (o : Nat) (hP : ob_ τ o 5) (ho : 126 ≤ o) (hk : h o 1 = 1) (x dep : Int) (hra : 0 ≤ h 2 1 ∧ h 2 1 ≤ 900 - 20 * 7) (hdp : 0 ≤ dep ∧ dep ≤ 33) : S_ mX0_ask (d + 7) 0 0 [.inr (some 2), .inr (some o), .inl 1, .inl 2, .inl x, .inl dep] τ h (Zi τ fun v h' => v = b_xor (((x + h o 2) - 4) - h o 3) (h o 0) ∧ h' = x_logs h [12, 11, 20, 10]) := by
  refine S_go (k := 2) (ls := [some (.inr (some 2)), some (.inr (some o)), some (.inl 1), some (.inl 2), some (.inl x), some (.inl dep), none, none]) (by decide) rfl (Nat.le_of_ble_eq_true rfl) rfl ?_
  refine G_iload_n (i := 2) dX0_ask_0 rfl rfl ?_
  refine G_istore (ls' := [some (.inr (some 2)), some (.inr (some o)), some (.inl 1), some (.inl 2), some (.inl x), some (.inl dep), some (.inl 1), none]) dX0_ask_1 (by decide) rfl ?_
  refine G_iconst dX0_ask_3 ?_
  refine G_istore (ls' := [some (.inr (some 2)), some (.inr (some o)), some (.inl 1), some (.inl 2), some (.inl x), some (.inl dep), some (.inl 1), some (.inl 0)]) dX0_ask_4 (by decide) rfl ?_
  refine G_iload dX0_ask_6 rfl ?_
  refine G_iconst dX0_ask_8 ?_
  refine G_icmp_ge (tgt := 44) dX0_ask_9 (by decide) (by decide) (by decide) (fun q => absurd q (by decide)) (fun _ => ?_)
  refine G_iload dX0_ask_12 rfl ?_
  refine G_if_le (tgt := 44) dX0_ask_14 (by decide) (by decide) (fun q => absurd q (by decide)) (fun _ => ?_)
  refine G_getsB (by decide +kernel) dX0_ask_17 ?_
  refine G_iconst dX0_ask_20 ?_
  refine G_iload dX0_ask_21 rfl ?_
  refine G_imul dX0_ask_23 ?_
  refine G_iload_n (i := 3) dX0_ask_24 rfl rfl ?_
  refine G_iadd dX0_ask_25 ?_
  refine G_ialdBv (v := 0) dX0_ask_26 (by decide) rfl ?_
  refine G_if_ne (tgt := 44) dX0_ask_27 (by decide) (by decide) (fun q => absurd q (by decide)) (fun _ => ?_)
  refine G_getsK (by decide +kernel) dX0_ask_30 ?_
  refine G_iload dX0_ask_33 rfl ?_
  refine G_ialdKv (v := 0) dX0_ask_35 (by decide) rfl ?_
  refine G_istore (ls' := [some (.inr (some 2)), some (.inr (some o)), some (.inl 1), some (.inl 2), some (.inl x), some (.inl dep), some (.inl 0), some (.inl 0)]) dX0_ask_36 (by decide) rfl ?_
  refine G_iinc (ls' := [some (.inr (some 2)), some (.inr (some o)), some (.inl 1), some (.inl 2), some (.inl x), some (.inl dep), some (.inl 0), some (.inl (0 + 1))]) dX0_ask_38 (by decide) rfl rfl ?_
  refine G_goto (tgt := 6) dX0_ask_41 (by decide) ?_
  refine G_iload dX0_ask_6 rfl ?_
  refine G_iconst dX0_ask_8 ?_
  refine G_icmp_ge (tgt := 44) dX0_ask_9 (by decide) (by decide) (by decide) (fun q => absurd q (by decide)) (fun _ => ?_)
  refine G_iload dX0_ask_12 rfl ?_
  refine G_if_le (tgt := 44) dX0_ask_14 (by decide) (by decide) (fun _ => ?_) (fun q => absurd q (by decide))
  refine G_iload dX0_ask_44 rfl ?_
  refine G_if_lt (tgt := 56) dX0_ask_46 (by decide) (by decide) (fun q => absurd q (by decide)) (fun _ => ?_)
  refine G_iload dX0_ask_49 rfl ?_
  refine G_bipush dX0_ask_51 (by decide) ?_
  refine G_icmp_le (tgt := 58) dX0_ask_53 (by decide) (by omega) (by decide) (fun c_1 => ?_) (fun c_1 => ?_)
  · refine G_getsB (by decide +kernel) dX0_ask_58 ?_
    refine G_iconst dX0_ask_61 ?_
    refine G_iload dX0_ask_62 rfl ?_
    refine G_imul dX0_ask_64 ?_
    refine G_iload_n (i := 3) dX0_ask_65 rfl rfl ?_
    refine G_iadd dX0_ask_66 ?_
    refine G_ialdBv (v := 12) dX0_ask_67 (by decide) rfl ?_
    refine G_istore (ls' := [some (.inr (some 2)), some (.inr (some o)), some (.inl 1), some (.inl 2), some (.inl x), some (.inl dep), some (.inl 0), some (.inl 12)]) dX0_ask_68 (by decide) rfl ?_
    refine G_aload_n (i := 0) dX0_ask_70 rfl rfl ?_
    refine G_iload dX0_ask_71 rfl ?_
    refine G_cVv (as := [.inl 12]) qX0_34 (x_noteM (d + 6) τ h hT 12 (by first | omega | (simp only [x_logs_n, List.length_cons, List.length_nil]; omega))) rfl rfl (Nat.le_of_ble_eq_true rfl) (o2 hT) dX0_ask_73 (fun h' e' => ?_)
    subst e'
    refine G_aload_n (i := 0) dX0_ask_76 rfl rfl ?_
    refine G_aload_n (i := 1) dX0_ask_77 rfl rfl ?_
    refine G_iload dX0_ask_78 rfl ?_
    refine G_getsK (by decide +kernel) dX0_ask_80 ?_
    refine G_iload dX0_ask_83 rfl ?_
    refine G_ialdKv (v := (-1)) dX0_ask_85 (by decide) rfl ?_
    refine G_iload dX0_ask_86 rfl ?_
    refine G_iload dX0_ask_88 rfl ?_
    refine G_iconst dX0_ask_90 ?_
    refine G_iadd dX0_ask_91 ?_
    refine G_cVi (as := [.inr (some o), .inl 12, .inl (-1), .inl x, .inl (dep + 1)]) qX0_38 (x_run_1_12 d τ (x_logs h [12]) hT o hP ho (by rw [x_logs_o [12] (by omega)]; exact hk) x (dep + 1) (by first | omega | (simp only [x_logs_n, List.length_cons, List.length_nil]; omega)) (by omega)) rfl rfl (Nat.le_of_ble_eq_true rfl) (o2 hT) dX0_ask_92 (fun v' h' e' => ?_)
    obtain ⟨rfl, rfl⟩ := e'
    refine G_iretZ rfl dX0_ask_95 ?_
    exact ⟨by simp only [x_logs_o [12] (show o ≠ 2 ∧ o ≠ 3 by omega)], rfl⟩
  · refine G_iconst dX0_ask_56 ?_
    refine G_iretZ rfl dX0_ask_57 ?_
    exfalso; omega

theorem x_run_2_10 (d : Nat) (τ : TT) (h : HT) (hT : TK τ) (o : Nat) (hP : ob_ τ o 5) (ho : 126 ≤ o) (hk : h o 1 = 2) (x dep : Int) (hra : 0 ≤ h 2 1 ∧ h 2 1 ≤ 900 - 20 * 0) (hdp : 0 ≤ dep ∧ dep ≤ 40) : S_ mX0_run d 0 0 [.inr (some 2), .inr (some o), .inl 10, .inl (-1), .inl x, .inl dep] τ h (Zi τ fun v h' => v = x + h o 2 ∧ h' = x_logs h []) := by
  refine S_go (k := 1) (ls := [some (.inr (some 2)), some (.inr (some o)), some (.inl 10), some (.inl (-1)), some (.inl x), some (.inl dep), none]) (by decide) rfl (Nat.le_of_ble_eq_true rfl) rfl ?_
  refine G_aload_n (i := 1) dX0_run_0 rfl rfl ?_
  refine G_getI (v := 2) fX0_19 rfl dX0_run_1 hP (hk) ?_
  refine G_istore (ls' := [some (.inr (some 2)), some (.inr (some o)), some (.inl 10), some (.inl (-1)), some (.inl x), some (.inl dep), some (.inl 2)]) dX0_run_4 (by decide) rfl ?_
  refine G_iload_n (i := 2) dX0_run_6 rfl rfl ?_
  refine G_lsw (off := 65) (tgt := 72) dX0_run_7 (by decide) (by decide) (by decide) (by decide) ?_
  refine G_iload dX0_run_72 rfl ?_
  refine G_aload_n (i := 1) dX0_run_74 rfl rfl ?_
  refine G_getI (v := h o 2) fX0_41 rfl dX0_run_75 hP rfl ?_
  refine G_iadd dX0_run_78 ?_
  refine G_iretZ rfl dX0_run_79 ?_
  exact ⟨rfl, rfl⟩

theorem x_ask_2_2_0 (d : Nat) (τ : TT) (h : HT) (hT : TK τ) (o : Nat) (hP : ob_ τ o 5) (ho : 126 ≤ o) (hk : h o 1 = 2) (x dep : Int) (hra : 0 ≤ h 2 1 ∧ h 2 1 ≤ 900 - 20 * 1) (hdp : 0 ≤ dep ∧ dep ≤ 39) : S_ mX0_ask (d + 1) 0 0 [.inr (some 2), .inr (some o), .inl 2, .inl 0, .inl x, .inl dep] τ h (Zi τ fun v h' => v = x + h o 2 ∧ h' = x_logs h [10]) := by
  refine S_go (k := 2) (ls := [some (.inr (some 2)), some (.inr (some o)), some (.inl 2), some (.inl 0), some (.inl x), some (.inl dep), none, none]) (by decide) rfl (Nat.le_of_ble_eq_true rfl) rfl ?_
  refine G_iload_n (i := 2) dX0_ask_0 rfl rfl ?_
  refine G_istore (ls' := [some (.inr (some 2)), some (.inr (some o)), some (.inl 2), some (.inl 0), some (.inl x), some (.inl dep), some (.inl 2), none]) dX0_ask_1 (by decide) rfl ?_
  refine G_iconst dX0_ask_3 ?_
  refine G_istore (ls' := [some (.inr (some 2)), some (.inr (some o)), some (.inl 2), some (.inl 0), some (.inl x), some (.inl dep), some (.inl 2), some (.inl 0)]) dX0_ask_4 (by decide) rfl ?_
  refine G_iload dX0_ask_6 rfl ?_
  refine G_iconst dX0_ask_8 ?_
  refine G_icmp_ge (tgt := 44) dX0_ask_9 (by decide) (by decide) (by decide) (fun q => absurd q (by decide)) (fun _ => ?_)
  refine G_iload dX0_ask_12 rfl ?_
  refine G_if_le (tgt := 44) dX0_ask_14 (by decide) (by decide) (fun q => absurd q (by decide)) (fun _ => ?_)
  refine G_getsB (by decide +kernel) dX0_ask_17 ?_
  refine G_iconst dX0_ask_20 ?_
  refine G_iload dX0_ask_21 rfl ?_
  refine G_imul dX0_ask_23 ?_
  refine G_iload_n (i := 3) dX0_ask_24 rfl rfl ?_
  refine G_iadd dX0_ask_25 ?_
  refine G_ialdBv (v := 0) dX0_ask_26 (by decide) rfl ?_
  refine G_if_ne (tgt := 44) dX0_ask_27 (by decide) (by decide) (fun q => absurd q (by decide)) (fun _ => ?_)
  refine G_getsK (by decide +kernel) dX0_ask_30 ?_
  refine G_iload dX0_ask_33 rfl ?_
  refine G_ialdKv (v := 0) dX0_ask_35 (by decide) rfl ?_
  refine G_istore (ls' := [some (.inr (some 2)), some (.inr (some o)), some (.inl 2), some (.inl 0), some (.inl x), some (.inl dep), some (.inl 0), some (.inl 0)]) dX0_ask_36 (by decide) rfl ?_
  refine G_iinc (ls' := [some (.inr (some 2)), some (.inr (some o)), some (.inl 2), some (.inl 0), some (.inl x), some (.inl dep), some (.inl 0), some (.inl (0 + 1))]) dX0_ask_38 (by decide) rfl rfl ?_
  refine G_goto (tgt := 6) dX0_ask_41 (by decide) ?_
  refine G_iload dX0_ask_6 rfl ?_
  refine G_iconst dX0_ask_8 ?_
  refine G_icmp_ge (tgt := 44) dX0_ask_9 (by decide) (by decide) (by decide) (fun q => absurd q (by decide)) (fun _ => ?_)
  refine G_iload dX0_ask_12 rfl ?_
  refine G_if_le (tgt := 44) dX0_ask_14 (by decide) (by decide) (fun _ => ?_) (fun q => absurd q (by decide))
  refine G_iload dX0_ask_44 rfl ?_
  refine G_if_lt (tgt := 56) dX0_ask_46 (by decide) (by decide) (fun q => absurd q (by decide)) (fun _ => ?_)
  refine G_iload dX0_ask_49 rfl ?_
  refine G_bipush dX0_ask_51 (by decide) ?_
  refine G_icmp_le (tgt := 58) dX0_ask_53 (by decide) (by omega) (by decide) (fun c_1 => ?_) (fun c_1 => ?_)
  · refine G_getsB (by decide +kernel) dX0_ask_58 ?_
    refine G_iconst dX0_ask_61 ?_
    refine G_iload dX0_ask_62 rfl ?_
    refine G_imul dX0_ask_64 ?_
    refine G_iload_n (i := 3) dX0_ask_65 rfl rfl ?_
    refine G_iadd dX0_ask_66 ?_
    refine G_ialdBv (v := 10) dX0_ask_67 (by decide) rfl ?_
    refine G_istore (ls' := [some (.inr (some 2)), some (.inr (some o)), some (.inl 2), some (.inl 0), some (.inl x), some (.inl dep), some (.inl 0), some (.inl 10)]) dX0_ask_68 (by decide) rfl ?_
    refine G_aload_n (i := 0) dX0_ask_70 rfl rfl ?_
    refine G_iload dX0_ask_71 rfl ?_
    refine G_cVv (as := [.inl 10]) qX0_34 (x_noteM d τ h hT 10 (by first | omega | (simp only [x_logs_n, List.length_cons, List.length_nil]; omega))) rfl rfl (Nat.le_of_ble_eq_true rfl) (o2 hT) dX0_ask_73 (fun h' e' => ?_)
    subst e'
    refine G_aload_n (i := 0) dX0_ask_76 rfl rfl ?_
    refine G_aload_n (i := 1) dX0_ask_77 rfl rfl ?_
    refine G_iload dX0_ask_78 rfl ?_
    refine G_getsK (by decide +kernel) dX0_ask_80 ?_
    refine G_iload dX0_ask_83 rfl ?_
    refine G_ialdKv (v := (-1)) dX0_ask_85 (by decide) rfl ?_
    refine G_iload dX0_ask_86 rfl ?_
    refine G_iload dX0_ask_88 rfl ?_
    refine G_iconst dX0_ask_90 ?_
    refine G_iadd dX0_ask_91 ?_
    refine G_cVi (as := [.inr (some o), .inl 10, .inl (-1), .inl x, .inl (dep + 1)]) qX0_38 (x_run_2_10 d τ (x_logs h [10]) hT o hP ho (by rw [x_logs_o [10] (by omega)]; exact hk) x (dep + 1) (by first | omega | (simp only [x_logs_n, List.length_cons, List.length_nil]; omega)) (by omega)) rfl rfl (Nat.le_of_ble_eq_true rfl) (o2 hT) dX0_ask_92 (fun v' h' e' => ?_)
    obtain ⟨rfl, rfl⟩ := e'
    refine G_iretZ rfl dX0_ask_95 ?_
    exact ⟨by simp only [x_logs_o [10] (show o ≠ 2 ∧ o ≠ 3 by omega)], rfl⟩
  · refine G_iconst dX0_ask_56 ?_
    refine G_iretZ rfl dX0_ask_57 ?_
    exfalso; omega

theorem x_run_2_11 (d : Nat) (τ : TT) (h : HT) (hT : TK τ) (o : Nat) (hP : ob_ τ o 5) (ho : 126 ≤ o) (hk : h o 1 = 2) (x dep : Int) (hra : 0 ≤ h 2 1 ∧ h 2 1 ≤ 900 - 20 * 2) (hdp : 0 ≤ dep ∧ dep ≤ 38) : S_ mX0_run (d + 2) 0 0 [.inr (some 2), .inr (some o), .inl 11, .inl (-1), .inl x, .inl dep] τ h (Zi τ fun v h' => v = (x + h o 2) - h o 3 ∧ h' = x_logs h [10]) := by
  refine S_go (k := 1) (ls := [some (.inr (some 2)), some (.inr (some o)), some (.inl 11), some (.inl (-1)), some (.inl x), some (.inl dep), none]) (by decide) rfl (Nat.le_of_ble_eq_true rfl) rfl ?_
  refine G_aload_n (i := 1) dX0_run_0 rfl rfl ?_
  refine G_getI (v := 2) fX0_19 rfl dX0_run_1 hP (hk) ?_
  refine G_istore (ls' := [some (.inr (some 2)), some (.inr (some o)), some (.inl 11), some (.inl (-1)), some (.inl x), some (.inl dep), some (.inl 2)]) dX0_run_4 (by decide) rfl ?_
  refine G_iload_n (i := 2) dX0_run_6 rfl rfl ?_
  refine G_lsw (off := 73) (tgt := 80) dX0_run_7 (by decide) (by decide) (by decide) (by decide) ?_
  refine G_aload_n (i := 0) dX0_run_80 rfl rfl ?_
  refine G_aload_n (i := 1) dX0_run_81 rfl rfl ?_
  refine G_iload dX0_run_82 rfl ?_
  refine G_iconst dX0_run_84 ?_
  refine G_iload dX0_run_85 rfl ?_
  refine G_iload dX0_run_87 rfl ?_
  refine G_cVi (as := [.inr (some o), .inl 2, .inl 0, .inl x, .inl dep]) qX0_24 (x_ask_2_2_0 d τ h hT o hP ho hk x dep (by first | omega | (simp only [x_logs_n, List.length_cons, List.length_nil]; omega)) (by omega)) rfl rfl (Nat.le_of_ble_eq_true rfl) (o2 hT) dX0_run_89 (fun v' h' e' => ?_)
  obtain ⟨rfl, rfl⟩ := e'
  refine G_aload_n (i := 1) dX0_run_92 rfl rfl ?_
  refine G_getI (v := h o 3) fX0_44 rfl dX0_run_93 hP (x_logs_o [10] (by omega)) ?_
  refine G_isub dX0_run_96 ?_
  refine G_iretZ rfl dX0_run_97 ?_
  exact ⟨by simp only [x_logs_o [10] (show o ≠ 2 ∧ o ≠ 3 by omega)], rfl⟩

theorem x_ask_2_0_1 (d : Nat) (τ : TT) (h : HT) (hT : TK τ) (o : Nat) (hP : ob_ τ o 5) (ho : 126 ≤ o) (hk : h o 1 = 2) (x dep : Int) (hra : 0 ≤ h 2 1 ∧ h 2 1 ≤ 900 - 20 * 3) (hdp : 0 ≤ dep ∧ dep ≤ 37) : S_ mX0_ask (d + 3) 0 0 [.inr (some 2), .inr (some o), .inl 0, .inl 1, .inl x, .inl dep] τ h (Zi τ fun v h' => v = (x + h o 2) - h o 3 ∧ h' = x_logs h [11, 10]) := by
  refine S_go (k := 2) (ls := [some (.inr (some 2)), some (.inr (some o)), some (.inl 0), some (.inl 1), some (.inl x), some (.inl dep), none, none]) (by decide) rfl (Nat.le_of_ble_eq_true rfl) rfl ?_
  refine G_iload_n (i := 2) dX0_ask_0 rfl rfl ?_
  refine G_istore (ls' := [some (.inr (some 2)), some (.inr (some o)), some (.inl 0), some (.inl 1), some (.inl x), some (.inl dep), some (.inl 0), none]) dX0_ask_1 (by decide) rfl ?_
  refine G_iconst dX0_ask_3 ?_
  refine G_istore (ls' := [some (.inr (some 2)), some (.inr (some o)), some (.inl 0), some (.inl 1), some (.inl x), some (.inl dep), some (.inl 0), some (.inl 0)]) dX0_ask_4 (by decide) rfl ?_
  refine G_iload dX0_ask_6 rfl ?_
  refine G_iconst dX0_ask_8 ?_
  refine G_icmp_ge (tgt := 44) dX0_ask_9 (by decide) (by decide) (by decide) (fun q => absurd q (by decide)) (fun _ => ?_)
  refine G_iload dX0_ask_12 rfl ?_
  refine G_if_le (tgt := 44) dX0_ask_14 (by decide) (by decide) (fun _ => ?_) (fun q => absurd q (by decide))
  refine G_iload dX0_ask_44 rfl ?_
  refine G_if_lt (tgt := 56) dX0_ask_46 (by decide) (by decide) (fun q => absurd q (by decide)) (fun _ => ?_)
  refine G_iload dX0_ask_49 rfl ?_
  refine G_bipush dX0_ask_51 (by decide) ?_
  refine G_icmp_le (tgt := 58) dX0_ask_53 (by decide) (by omega) (by decide) (fun c_1 => ?_) (fun c_1 => ?_)
  · refine G_getsB (by decide +kernel) dX0_ask_58 ?_
    refine G_iconst dX0_ask_61 ?_
    refine G_iload dX0_ask_62 rfl ?_
    refine G_imul dX0_ask_64 ?_
    refine G_iload_n (i := 3) dX0_ask_65 rfl rfl ?_
    refine G_iadd dX0_ask_66 ?_
    refine G_ialdBv (v := 11) dX0_ask_67 (by decide) rfl ?_
    refine G_istore (ls' := [some (.inr (some 2)), some (.inr (some o)), some (.inl 0), some (.inl 1), some (.inl x), some (.inl dep), some (.inl 0), some (.inl 11)]) dX0_ask_68 (by decide) rfl ?_
    refine G_aload_n (i := 0) dX0_ask_70 rfl rfl ?_
    refine G_iload dX0_ask_71 rfl ?_
    refine G_cVv (as := [.inl 11]) qX0_34 (x_noteM (d + 2) τ h hT 11 (by first | omega | (simp only [x_logs_n, List.length_cons, List.length_nil]; omega))) rfl rfl (Nat.le_of_ble_eq_true rfl) (o2 hT) dX0_ask_73 (fun h' e' => ?_)
    subst e'
    refine G_aload_n (i := 0) dX0_ask_76 rfl rfl ?_
    refine G_aload_n (i := 1) dX0_ask_77 rfl rfl ?_
    refine G_iload dX0_ask_78 rfl ?_
    refine G_getsK (by decide +kernel) dX0_ask_80 ?_
    refine G_iload dX0_ask_83 rfl ?_
    refine G_ialdKv (v := (-1)) dX0_ask_85 (by decide) rfl ?_
    refine G_iload dX0_ask_86 rfl ?_
    refine G_iload dX0_ask_88 rfl ?_
    refine G_iconst dX0_ask_90 ?_
    refine G_iadd dX0_ask_91 ?_
    refine G_cVi (as := [.inr (some o), .inl 11, .inl (-1), .inl x, .inl (dep + 1)]) qX0_38 (x_run_2_11 d τ (x_logs h [11]) hT o hP ho (by rw [x_logs_o [11] (by omega)]; exact hk) x (dep + 1) (by first | omega | (simp only [x_logs_n, List.length_cons, List.length_nil]; omega)) (by omega)) rfl rfl (Nat.le_of_ble_eq_true rfl) (o2 hT) dX0_ask_92 (fun v' h' e' => ?_)
    obtain ⟨rfl, rfl⟩ := e'
    refine G_iretZ rfl dX0_ask_95 ?_
    exact ⟨by simp only [x_logs_o [11] (show o ≠ 2 ∧ o ≠ 3 by omega)], rfl⟩
  · refine G_iconst dX0_ask_56 ?_
    refine G_iretZ rfl dX0_ask_57 ?_
    exfalso; omega

theorem x_run_2_30 (d : Nat) (τ : TT) (h : HT) (hT : TK τ) (o : Nat) (hP : ob_ τ o 5) (ho : 126 ≤ o) (hk : h o 1 = 2) (x dep : Int) (hra : 0 ≤ h 2 1 ∧ h 2 1 ≤ 900 - 20 * 4) (hdp : 0 ≤ dep ∧ dep ≤ 36) : S_ mX0_run (d + 4) 0 0 [.inr (some 2), .inr (some o), .inl 30, .inl 0, .inl x, .inl dep] τ h (Zi τ fun v h' => v = ((x + h o 2) - h o 3) + (x + h o 2) ∧ h' = x_logs h [11, 10, 10]) := by
  refine S_go (k := 1) (ls := [some (.inr (some 2)), some (.inr (some o)), some (.inl 30), some (.inl 0), some (.inl x), some (.inl dep), none]) (by decide) rfl (Nat.le_of_ble_eq_true rfl) rfl ?_
  refine G_aload_n (i := 1) dX0_run_0 rfl rfl ?_
  refine G_getI (v := 2) fX0_19 rfl dX0_run_1 hP (hk) ?_
  refine G_istore (ls' := [some (.inr (some 2)), some (.inr (some o)), some (.inl 30), some (.inl 0), some (.inl x), some (.inl dep), some (.inl 2)]) dX0_run_4 (by decide) rfl ?_
  refine G_iload_n (i := 2) dX0_run_6 rfl rfl ?_
  refine G_lsw (off := 123) (tgt := 130) dX0_run_7 (by decide) (by decide) (by decide) (by decide) ?_
  refine G_aload_n (i := 0) dX0_run_130 rfl rfl ?_
  refine G_aload_n (i := 1) dX0_run_131 rfl rfl ?_
  refine G_iload_n (i := 3) dX0_run_132 rfl rfl ?_
  refine G_iconst dX0_run_133 ?_
  refine G_iload dX0_run_134 rfl ?_
  refine G_iload dX0_run_136 rfl ?_
  refine G_cVi (as := [.inr (some o), .inl 0, .inl 1, .inl x, .inl dep]) qX0_24 (x_ask_2_0_1 d τ h hT o hP ho hk x dep (by first | omega | (simp only [x_logs_n, List.length_cons, List.length_nil]; omega)) (by omega)) rfl rfl (Nat.le_of_ble_eq_true rfl) (o2 hT) dX0_run_138 (fun v' h' e' => ?_)
  obtain ⟨rfl, rfl⟩ := e'
  refine G_aload_n (i := 0) dX0_run_141 rfl rfl ?_
  refine G_aload_n (i := 1) dX0_run_142 rfl rfl ?_
  refine G_iload dX0_run_143 rfl ?_
  refine G_iconst dX0_run_145 ?_
  refine G_iload dX0_run_146 rfl ?_
  refine G_iload dX0_run_148 rfl ?_
  refine G_cVi (as := [.inr (some o), .inl 2, .inl 0, .inl x, .inl dep]) qX0_24 (x_ask_2_2_0 (d + 2) τ (x_logs h [11, 10]) hT o hP ho (by rw [x_logs_o [11, 10] (by omega)]; exact hk) x dep (by first | omega | (simp only [x_logs_n, List.length_cons, List.length_nil]; omega)) (by omega)) rfl rfl (Nat.le_of_ble_eq_true rfl) (o2 hT) dX0_run_150 (fun v' h' e' => ?_)
  obtain ⟨rfl, rfl⟩ := e'
  refine G_iadd dX0_run_153 ?_
  refine G_iretZ rfl dX0_run_154 ?_
  exact ⟨by simp only [x_logs_o [11, 10] (show o ≠ 2 ∧ o ≠ 3 by omega), x_logs_o [10] (show o ≠ 2 ∧ o ≠ 3 by omega)], rfl⟩

theorem x_ask_2_2_1 (d : Nat) (τ : TT) (h : HT) (hT : TK τ) (o : Nat) (hP : ob_ τ o 5) (ho : 126 ≤ o) (hk : h o 1 = 2) (x dep : Int) (hra : 0 ≤ h 2 1 ∧ h 2 1 ≤ 900 - 20 * 5) (hdp : 0 ≤ dep ∧ dep ≤ 35) : S_ mX0_ask (d + 5) 0 0 [.inr (some 2), .inr (some o), .inl 2, .inl 1, .inl x, .inl dep] τ h (Zi τ fun v h' => v = ((x + h o 2) - h o 3) + (x + h o 2) ∧ h' = x_logs h [30, 11, 10, 10]) := by
  refine S_go (k := 2) (ls := [some (.inr (some 2)), some (.inr (some o)), some (.inl 2), some (.inl 1), some (.inl x), some (.inl dep), none, none]) (by decide) rfl (Nat.le_of_ble_eq_true rfl) rfl ?_
  refine G_iload_n (i := 2) dX0_ask_0 rfl rfl ?_
  refine G_istore (ls' := [some (.inr (some 2)), some (.inr (some o)), some (.inl 2), some (.inl 1), some (.inl x), some (.inl dep), some (.inl 2), none]) dX0_ask_1 (by decide) rfl ?_
  refine G_iconst dX0_ask_3 ?_
  refine G_istore (ls' := [some (.inr (some 2)), some (.inr (some o)), some (.inl 2), some (.inl 1), some (.inl x), some (.inl dep), some (.inl 2), some (.inl 0)]) dX0_ask_4 (by decide) rfl ?_
  refine G_iload dX0_ask_6 rfl ?_
  refine G_iconst dX0_ask_8 ?_
  refine G_icmp_ge (tgt := 44) dX0_ask_9 (by decide) (by decide) (by decide) (fun q => absurd q (by decide)) (fun _ => ?_)
  refine G_iload dX0_ask_12 rfl ?_
  refine G_if_le (tgt := 44) dX0_ask_14 (by decide) (by decide) (fun q => absurd q (by decide)) (fun _ => ?_)
  refine G_getsB (by decide +kernel) dX0_ask_17 ?_
  refine G_iconst dX0_ask_20 ?_
  refine G_iload dX0_ask_21 rfl ?_
  refine G_imul dX0_ask_23 ?_
  refine G_iload_n (i := 3) dX0_ask_24 rfl rfl ?_
  refine G_iadd dX0_ask_25 ?_
  refine G_ialdBv (v := 30) dX0_ask_26 (by decide) rfl ?_
  refine G_if_ne (tgt := 44) dX0_ask_27 (by decide) (by decide) (fun _ => ?_) (fun q => absurd q (by decide))
  refine G_iload dX0_ask_44 rfl ?_
  refine G_if_lt (tgt := 56) dX0_ask_46 (by decide) (by decide) (fun q => absurd q (by decide)) (fun _ => ?_)
  refine G_iload dX0_ask_49 rfl ?_
  refine G_bipush dX0_ask_51 (by decide) ?_
  refine G_icmp_le (tgt := 58) dX0_ask_53 (by decide) (by omega) (by decide) (fun c_1 => ?_) (fun c_1 => ?_)
  · refine G_getsB (by decide +kernel) dX0_ask_58 ?_
    refine G_iconst dX0_ask_61 ?_
    refine G_iload dX0_ask_62 rfl ?_
    refine G_imul dX0_ask_64 ?_
    refine G_iload_n (i := 3) dX0_ask_65 rfl rfl ?_
    refine G_iadd dX0_ask_66 ?_
    refine G_ialdBv (v := 30) dX0_ask_67 (by decide) rfl ?_
    refine G_istore (ls' := [some (.inr (some 2)), some (.inr (some o)), some (.inl 2), some (.inl 1), some (.inl x), some (.inl dep), some (.inl 2), some (.inl 30)]) dX0_ask_68 (by decide) rfl ?_
    refine G_aload_n (i := 0) dX0_ask_70 rfl rfl ?_
    refine G_iload dX0_ask_71 rfl ?_
    refine G_cVv (as := [.inl 30]) qX0_34 (x_noteM (d + 4) τ h hT 30 (by first | omega | (simp only [x_logs_n, List.length_cons, List.length_nil]; omega))) rfl rfl (Nat.le_of_ble_eq_true rfl) (o2 hT) dX0_ask_73 (fun h' e' => ?_)
    subst e'
    refine G_aload_n (i := 0) dX0_ask_76 rfl rfl ?_
    refine G_aload_n (i := 1) dX0_ask_77 rfl rfl ?_
    refine G_iload dX0_ask_78 rfl ?_
    refine G_getsK (by decide +kernel) dX0_ask_80 ?_
    refine G_iload dX0_ask_83 rfl ?_
    refine G_ialdKv (v := 0) dX0_ask_85 (by decide) rfl ?_
    refine G_iload dX0_ask_86 rfl ?_
    refine G_iload dX0_ask_88 rfl ?_
    refine G_iconst dX0_ask_90 ?_
    refine G_iadd dX0_ask_91 ?_
    refine G_cVi (as := [.inr (some o), .inl 30, .inl 0, .inl x, .inl (dep + 1)]) qX0_38 (x_run_2_30 d τ (x_logs h [30]) hT o hP ho (by rw [x_logs_o [30] (by omega)]; exact hk) x (dep + 1) (by first | omega | (simp only [x_logs_n, List.length_cons, List.length_nil]; omega)) (by omega)) rfl rfl (Nat.le_of_ble_eq_true rfl) (o2 hT) dX0_ask_92 (fun v' h' e' => ?_)
    obtain ⟨rfl, rfl⟩ := e'
    refine G_iretZ rfl dX0_ask_95 ?_
    exact ⟨by simp only [x_logs_o [30] (show o ≠ 2 ∧ o ≠ 3 by omega)], rfl⟩
  · refine G_iconst dX0_ask_56 ?_
    refine G_iretZ rfl dX0_ask_57 ?_
    exfalso; omega

theorem x_run_2_12 (d : Nat) (τ : TT) (h : HT) (hT : TK τ) (o : Nat) (hP : ob_ τ o 5) (ho : 126 ≤ o) (hk : h o 1 = 2) (x dep : Int) (hra : 0 ≤ h 2 1 ∧ h 2 1 ≤ 900 - 20 * 6) (hdp : 0 ≤ dep ∧ dep ≤ 34) : S_ mX0_run (d + 6) 0 0 [.inr (some 2), .inr (some o), .inl 12, .inl (-1), .inl x, .inl dep] τ h (Zi τ fun v h' => v = b_xor (((x + h o 2) - h o 3) + (x + h o 2)) (h o 0) ∧ h' = x_logs h [30, 11, 10, 10]) := by
  refine S_go (k := 1) (ls := [some (.inr (some 2)), some (.inr (some o)), some (.inl 12), some (.inl (-1)), some (.inl x), some (.inl dep), none]) (by decide) rfl (Nat.le_of_ble_eq_true rfl) rfl ?_
  refine G_aload_n (i := 1) dX0_run_0 rfl rfl ?_
  refine G_getI (v := 2) fX0_19 rfl dX0_run_1 hP (hk) ?_
  refine G_istore (ls' := [some (.inr (some 2)), some (.inr (some o)), some (.inl 12), some (.inl (-1)), some (.inl x), some (.inl dep), some (.inl 2)]) dX0_run_4 (by decide) rfl ?_
  refine G_iload_n (i := 2) dX0_run_6 rfl rfl ?_
  refine G_lsw (off := 91) (tgt := 98) dX0_run_7 (by decide) (by decide) (by decide) (by decide) ?_
  refine G_aload_n (i := 0) dX0_run_98 rfl rfl ?_
  refine G_aload_n (i := 1) dX0_run_99 rfl rfl ?_
  refine G_iload dX0_run_100 rfl ?_
  refine G_iconst dX0_run_102 ?_
  refine G_iload dX0_run_103 rfl ?_
  refine G_iload dX0_run_105 rfl ?_
  refine G_cVi (as := [.inr (some o), .inl 2, .inl 1, .inl x, .inl dep]) qX0_24 (x_ask_2_2_1 d τ h hT o hP ho hk x dep (by first | omega | (simp only [x_logs_n, List.length_cons, List.length_nil]; omega)) (by omega)) rfl rfl (Nat.le_of_ble_eq_true rfl) (o2 hT) dX0_run_107 (fun v' h' e' => ?_)
  obtain ⟨rfl, rfl⟩ := e'
  refine G_aload_n (i := 1) dX0_run_110 rfl rfl ?_
  refine G_getI (v := h o 0) fX0_47 rfl dX0_run_111 hP (x_logs_o [30, 11, 10, 10] (by omega)) ?_
  refine G_ixor dX0_run_114 ?_
  refine G_iretZ rfl dX0_run_115 ?_
  exact ⟨by simp only [x_logs_o [30, 11, 10, 10] (show o ≠ 2 ∧ o ≠ 3 by omega)], rfl⟩

theorem x_ask_2_2_2 (d : Nat) (τ : TT) (h : HT) (hT : TK τ) (o : Nat) (hP : ob_ τ o 5) (ho : 126 ≤ o) (hk : h o 1 = 2) (x dep : Int) (hra : 0 ≤ h 2 1 ∧ h 2 1 ≤ 900 - 20 * 7) (hdp : 0 ≤ dep ∧ dep ≤ 33) : S_ mX0_ask (d + 7) 0 0 [.inr (some 2), .inr (some o), .inl 2, .inl 2, .inl x, .inl dep] τ h (Zi τ fun v h' => v = b_xor (((x + h o 2) - h o 3) + (x + h o 2)) (h o 0) ∧ h' = x_logs h [12, 30, 11, 10, 10]) := by
  refine S_go (k := 2) (ls := [some (.inr (some 2)), some (.inr (some o)), some (.inl 2), some (.inl 2), some (.inl x), some (.inl dep), none, none]) (by decide) rfl (Nat.le_of_ble_eq_true rfl) rfl ?_
  refine G_iload_n (i := 2) dX0_ask_0 rfl rfl ?_
  refine G_istore (ls' := [some (.inr (some 2)), some (.inr (some o)), some (.inl 2), some (.inl 2), some (.inl x), some (.inl dep), some (.inl 2), none]) dX0_ask_1 (by decide) rfl ?_
  refine G_iconst dX0_ask_3 ?_
  refine G_istore (ls' := [some (.inr (some 2)), some (.inr (some o)), some (.inl 2), some (.inl 2), some (.inl x), some (.inl dep), some (.inl 2), some (.inl 0)]) dX0_ask_4 (by decide) rfl ?_
  refine G_iload dX0_ask_6 rfl ?_
  refine G_iconst dX0_ask_8 ?_
  refine G_icmp_ge (tgt := 44) dX0_ask_9 (by decide) (by decide) (by decide) (fun q => absurd q (by decide)) (fun _ => ?_)
  refine G_iload dX0_ask_12 rfl ?_
  refine G_if_le (tgt := 44) dX0_ask_14 (by decide) (by decide) (fun q => absurd q (by decide)) (fun _ => ?_)
  refine G_getsB (by decide +kernel) dX0_ask_17 ?_
  refine G_iconst dX0_ask_20 ?_
  refine G_iload dX0_ask_21 rfl ?_
  refine G_imul dX0_ask_23 ?_
  refine G_iload_n (i := 3) dX0_ask_24 rfl rfl ?_
  refine G_iadd dX0_ask_25 ?_
  refine G_ialdBv (v := 0) dX0_ask_26 (by decide) rfl ?_
  refine G_if_ne (tgt := 44) dX0_ask_27 (by decide) (by decide) (fun q => absurd q (by decide)) (fun _ => ?_)
  refine G_getsK (by decide +kernel) dX0_ask_30 ?_
  refine G_iload dX0_ask_33 rfl ?_
  refine G_ialdKv (v := 0) dX0_ask_35 (by decide) rfl ?_
  refine G_istore (ls' := [some (.inr (some 2)), some (.inr (some o)), some (.inl 2), some (.inl 2), some (.inl x), some (.inl dep), some (.inl 0), some (.inl 0)]) dX0_ask_36 (by decide) rfl ?_
  refine G_iinc (ls' := [some (.inr (some 2)), some (.inr (some o)), some (.inl 2), some (.inl 2), some (.inl x), some (.inl dep), some (.inl 0), some (.inl (0 + 1))]) dX0_ask_38 (by decide) rfl rfl ?_
  refine G_goto (tgt := 6) dX0_ask_41 (by decide) ?_
  refine G_iload dX0_ask_6 rfl ?_
  refine G_iconst dX0_ask_8 ?_
  refine G_icmp_ge (tgt := 44) dX0_ask_9 (by decide) (by decide) (by decide) (fun q => absurd q (by decide)) (fun _ => ?_)
  refine G_iload dX0_ask_12 rfl ?_
  refine G_if_le (tgt := 44) dX0_ask_14 (by decide) (by decide) (fun _ => ?_) (fun q => absurd q (by decide))
  refine G_iload dX0_ask_44 rfl ?_
  refine G_if_lt (tgt := 56) dX0_ask_46 (by decide) (by decide) (fun q => absurd q (by decide)) (fun _ => ?_)
  refine G_iload dX0_ask_49 rfl ?_
  refine G_bipush dX0_ask_51 (by decide) ?_
  refine G_icmp_le (tgt := 58) dX0_ask_53 (by decide) (by omega) (by decide) (fun c_1 => ?_) (fun c_1 => ?_)
  · refine G_getsB (by decide +kernel) dX0_ask_58 ?_
    refine G_iconst dX0_ask_61 ?_
    refine G_iload dX0_ask_62 rfl ?_
    refine G_imul dX0_ask_64 ?_
    refine G_iload_n (i := 3) dX0_ask_65 rfl rfl ?_
    refine G_iadd dX0_ask_66 ?_
    refine G_ialdBv (v := 12) dX0_ask_67 (by decide) rfl ?_
    refine G_istore (ls' := [some (.inr (some 2)), some (.inr (some o)), some (.inl 2), some (.inl 2), some (.inl x), some (.inl dep), some (.inl 0), some (.inl 12)]) dX0_ask_68 (by decide) rfl ?_
    refine G_aload_n (i := 0) dX0_ask_70 rfl rfl ?_
    refine G_iload dX0_ask_71 rfl ?_
    refine G_cVv (as := [.inl 12]) qX0_34 (x_noteM (d + 6) τ h hT 12 (by first | omega | (simp only [x_logs_n, List.length_cons, List.length_nil]; omega))) rfl rfl (Nat.le_of_ble_eq_true rfl) (o2 hT) dX0_ask_73 (fun h' e' => ?_)
    subst e'
    refine G_aload_n (i := 0) dX0_ask_76 rfl rfl ?_
    refine G_aload_n (i := 1) dX0_ask_77 rfl rfl ?_
    refine G_iload dX0_ask_78 rfl ?_
    refine G_getsK (by decide +kernel) dX0_ask_80 ?_
    refine G_iload dX0_ask_83 rfl ?_
    refine G_ialdKv (v := (-1)) dX0_ask_85 (by decide) rfl ?_
    refine G_iload dX0_ask_86 rfl ?_
    refine G_iload dX0_ask_88 rfl ?_
    refine G_iconst dX0_ask_90 ?_
    refine G_iadd dX0_ask_91 ?_
    refine G_cVi (as := [.inr (some o), .inl 12, .inl (-1), .inl x, .inl (dep + 1)]) qX0_38 (x_run_2_12 d τ (x_logs h [12]) hT o hP ho (by rw [x_logs_o [12] (by omega)]; exact hk) x (dep + 1) (by first | omega | (simp only [x_logs_n, List.length_cons, List.length_nil]; omega)) (by omega)) rfl rfl (Nat.le_of_ble_eq_true rfl) (o2 hT) dX0_ask_92 (fun v' h' e' => ?_)
    obtain ⟨rfl, rfl⟩ := e'
    refine G_iretZ rfl dX0_ask_95 ?_
    exact ⟨by simp only [x_logs_o [12] (show o ≠ 2 ∧ o ≠ 3 by omega)], rfl⟩
  · refine G_iconst dX0_ask_56 ?_
    refine G_iretZ rfl dX0_ask_57 ?_
    exfalso; omega

theorem x_run_3_10 (d : Nat) (τ : TT) (h : HT) (hT : TK τ) (o : Nat) (hP : ob_ τ o 5) (ho : 126 ≤ o) (hk : h o 1 = 3) (x dep : Int) (hra : 0 ≤ h 2 1 ∧ h 2 1 ≤ 900 - 20 * 0) (hdp : 0 ≤ dep ∧ dep ≤ 40) : S_ mX0_run d 0 0 [.inr (some 2), .inr (some o), .inl 10, .inl (-1), .inl x, .inl dep] τ h (Zi τ fun v h' => v = x + h o 2 ∧ h' = x_logs h []) := by
  refine S_go (k := 1) (ls := [some (.inr (some 2)), some (.inr (some o)), some (.inl 10), some (.inl (-1)), some (.inl x), some (.inl dep), none]) (by decide) rfl (Nat.le_of_ble_eq_true rfl) rfl ?_
  refine G_aload_n (i := 1) dX0_run_0 rfl rfl ?_
  refine G_getI (v := 3) fX0_19 rfl dX0_run_1 hP (hk) ?_
  refine G_istore (ls' := [some (.inr (some 2)), some (.inr (some o)), some (.inl 10), some (.inl (-1)), some (.inl x), some (.inl dep), some (.inl 3)]) dX0_run_4 (by decide) rfl ?_
  refine G_iload_n (i := 2) dX0_run_6 rfl rfl ?_
  refine G_lsw (off := 65) (tgt := 72) dX0_run_7 (by decide) (by decide) (by decide) (by decide) ?_
  refine G_iload dX0_run_72 rfl ?_
  refine G_aload_n (i := 1) dX0_run_74 rfl rfl ?_
  refine G_getI (v := h o 2) fX0_41 rfl dX0_run_75 hP rfl ?_
  refine G_iadd dX0_run_78 ?_
  refine G_iretZ rfl dX0_run_79 ?_
  exact ⟨rfl, rfl⟩

theorem x_ask_3_2_0 (d : Nat) (τ : TT) (h : HT) (hT : TK τ) (o : Nat) (hP : ob_ τ o 5) (ho : 126 ≤ o) (hk : h o 1 = 3) (x dep : Int) (hra : 0 ≤ h 2 1 ∧ h 2 1 ≤ 900 - 20 * 1) (hdp : 0 ≤ dep ∧ dep ≤ 39) : S_ mX0_ask (d + 1) 0 0 [.inr (some 2), .inr (some o), .inl 2, .inl 0, .inl x, .inl dep] τ h (Zi τ fun v h' => v = x + h o 2 ∧ h' = x_logs h [10]) := by
  refine S_go (k := 2) (ls := [some (.inr (some 2)), some (.inr (some o)), some (.inl 2), some (.inl 0), some (.inl x), some (.inl dep), none, none]) (by decide) rfl (Nat.le_of_ble_eq_true rfl) rfl ?_
  refine G_iload_n (i := 2) dX0_ask_0 rfl rfl ?_
  refine G_istore (ls' := [some (.inr (some 2)), some (.inr (some o)), some (.inl 2), some (.inl 0), some (.inl x), some (.inl dep), some (.inl 2), none]) dX0_ask_1 (by decide) rfl ?_
  refine G_iconst dX0_ask_3 ?_
  refine G_istore (ls' := [some (.inr (some 2)), some (.inr (some o)), some (.inl 2), some (.inl 0), some (.inl x), some (.inl dep), some (.inl 2), some (.inl 0)]) dX0_ask_4 (by decide) rfl ?_
  refine G_iload dX0_ask_6 rfl ?_
  refine G_iconst dX0_ask_8 ?_
  refine G_icmp_ge (tgt := 44) dX0_ask_9 (by decide) (by decide) (by decide) (fun q => absurd q (by decide)) (fun _ => ?_)
  refine G_iload dX0_ask_12 rfl ?_
  refine G_if_le (tgt := 44) dX0_ask_14 (by decide) (by decide) (fun q => absurd q (by decide)) (fun _ => ?_)
  refine G_getsB (by decide +kernel) dX0_ask_17 ?_
  refine G_iconst dX0_ask_20 ?_
  refine G_iload dX0_ask_21 rfl ?_
  refine G_imul dX0_ask_23 ?_
  refine G_iload_n (i := 3) dX0_ask_24 rfl rfl ?_
  refine G_iadd dX0_ask_25 ?_
  refine G_ialdBv (v := 0) dX0_ask_26 (by decide) rfl ?_
  refine G_if_ne (tgt := 44) dX0_ask_27 (by decide) (by decide) (fun q => absurd q (by decide)) (fun _ => ?_)
  refine G_getsK (by decide +kernel) dX0_ask_30 ?_
  refine G_iload dX0_ask_33 rfl ?_
  refine G_ialdKv (v := 0) dX0_ask_35 (by decide) rfl ?_
  refine G_istore (ls' := [some (.inr (some 2)), some (.inr (some o)), some (.inl 2), some (.inl 0), some (.inl x), some (.inl dep), some (.inl 0), some (.inl 0)]) dX0_ask_36 (by decide) rfl ?_
  refine G_iinc (ls' := [some (.inr (some 2)), some (.inr (some o)), some (.inl 2), some (.inl 0), some (.inl x), some (.inl dep), some (.inl 0), some (.inl (0 + 1))]) dX0_ask_38 (by decide) rfl rfl ?_
  refine G_goto (tgt := 6) dX0_ask_41 (by decide) ?_
  refine G_iload dX0_ask_6 rfl ?_
  refine G_iconst dX0_ask_8 ?_
  refine G_icmp_ge (tgt := 44) dX0_ask_9 (by decide) (by decide) (by decide) (fun q => absurd q (by decide)) (fun _ => ?_)
  refine G_iload dX0_ask_12 rfl ?_
  refine G_if_le (tgt := 44) dX0_ask_14 (by decide) (by decide) (fun _ => ?_) (fun q => absurd q (by decide))
  refine G_iload dX0_ask_44 rfl ?_
  refine G_if_lt (tgt := 56) dX0_ask_46 (by decide) (by decide) (fun q => absurd q (by decide)) (fun _ => ?_)
  refine G_iload dX0_ask_49 rfl ?_
  refine G_bipush dX0_ask_51 (by decide) ?_
  refine G_icmp_le (tgt := 58) dX0_ask_53 (by decide) (by omega) (by decide) (fun c_1 => ?_) (fun c_1 => ?_)
  · refine G_getsB (by decide +kernel) dX0_ask_58 ?_
    refine G_iconst dX0_ask_61 ?_
    refine G_iload dX0_ask_62 rfl ?_
    refine G_imul dX0_ask_64 ?_
    refine G_iload_n (i := 3) dX0_ask_65 rfl rfl ?_
    refine G_iadd dX0_ask_66 ?_
    refine G_ialdBv (v := 10) dX0_ask_67 (by decide) rfl ?_
    refine G_istore (ls' := [some (.inr (some 2)), some (.inr (some o)), some (.inl 2), some (.inl 0), some (.inl x), some (.inl dep), some (.inl 0), some (.inl 10)]) dX0_ask_68 (by decide) rfl ?_
    refine G_aload_n (i := 0) dX0_ask_70 rfl rfl ?_
    refine G_iload dX0_ask_71 rfl ?_
    refine G_cVv (as := [.inl 10]) qX0_34 (x_noteM d τ h hT 10 (by first | omega | (simp only [x_logs_n, List.length_cons, List.length_nil]; omega))) rfl rfl (Nat.le_of_ble_eq_true rfl) (o2 hT) dX0_ask_73 (fun h' e' => ?_)
    subst e'
    refine G_aload_n (i := 0) dX0_ask_76 rfl rfl ?_
    refine G_aload_n (i := 1) dX0_ask_77 rfl rfl ?_
    refine G_iload dX0_ask_78 rfl ?_
    refine G_getsK (by decide +kernel) dX0_ask_80 ?_
    refine G_iload dX0_ask_83 rfl ?_
    refine G_ialdKv (v := (-1)) dX0_ask_85 (by decide) rfl ?_
    refine G_iload dX0_ask_86 rfl ?_
    refine G_iload dX0_ask_88 rfl ?_
    refine G_iconst dX0_ask_90 ?_
    refine G_iadd dX0_ask_91 ?_
    refine G_cVi (as := [.inr (some o), .inl 10, .inl (-1), .inl x, .inl (dep + 1)]) qX0_38 (x_run_3_10 d τ (x_logs h [10]) hT o hP ho (by rw [x_logs_o [10] (by omega)]; exact hk) x (dep + 1) (by first | omega | (simp only [x_logs_n, List.length_cons, List.length_nil]; omega)) (by omega)) rfl rfl (Nat.le_of_ble_eq_true rfl) (o2 hT) dX0_ask_92 (fun v' h' e' => ?_)
    obtain ⟨rfl, rfl⟩ := e'
    refine G_iretZ rfl dX0_ask_95 ?_
    exact ⟨by simp only [x_logs_o [10] (show o ≠ 2 ∧ o ≠ 3 by omega)], rfl⟩
  · refine G_iconst dX0_ask_56 ?_
    refine G_iretZ rfl dX0_ask_57 ?_
    exfalso; omega

theorem x_run_3_40 (d : Nat) (τ : TT) (h : HT) (hT : TK τ) (o : Nat) (hP : ob_ τ o 5) (ho : 126 ≤ o) (hk : h o 1 = 3) (x dep : Int) (hra : 0 ≤ h 2 1 ∧ h 2 1 ≤ 900 - 20 * 2) (hdp : 0 ≤ dep ∧ dep ≤ 38) : S_ mX0_run (d + 2) 0 0 [.inr (some 2), .inr (some o), .inl 40, .inl 2, .inl x, .inl dep] τ h (Zi τ fun v h' => v = (x * 3) + h o 2 ∧ h' = x_logs h [10]) := by
  refine S_go (k := 1) (ls := [some (.inr (some 2)), some (.inr (some o)), some (.inl 40), some (.inl 2), some (.inl x), some (.inl dep), none]) (by decide) rfl (Nat.le_of_ble_eq_true rfl) rfl ?_
  refine G_aload_n (i := 1) dX0_run_0 rfl rfl ?_
  refine G_getI (v := 3) fX0_19 rfl dX0_run_1 hP (hk) ?_
  refine G_istore (ls' := [some (.inr (some 2)), some (.inr (some o)), some (.inl 40), some (.inl 2), some (.inl x), some (.inl dep), some (.inl 3)]) dX0_run_4 (by decide) rfl ?_
  refine G_iload_n (i := 2) dX0_run_6 rfl rfl ?_
  refine G_lsw (off := 148) (tgt := 155) dX0_run_7 (by decide) (by decide) (by decide) (by decide) ?_
  refine G_aload_n (i := 0) dX0_run_155 rfl rfl ?_
  refine G_aload_n (i := 1) dX0_run_156 rfl rfl ?_
  refine G_iload_n (i := 3) dX0_run_157 rfl rfl ?_
  refine G_iconst dX0_run_158 ?_
  refine G_iload dX0_run_159 rfl ?_
  refine G_iconst dX0_run_161 ?_
  refine G_imul dX0_run_162 ?_
  refine G_iload dX0_run_163 rfl ?_
  refine G_cVi (as := [.inr (some o), .inl 2, .inl 0, .inl (x * 3), .inl dep]) qX0_24 (x_ask_3_2_0 d τ h hT o hP ho hk (x * 3) dep (by first | omega | (simp only [x_logs_n, List.length_cons, List.length_nil]; omega)) (by omega)) rfl rfl (Nat.le_of_ble_eq_true rfl) (o2 hT) dX0_run_165 (fun v' h' e' => ?_)
  obtain ⟨rfl, rfl⟩ := e'
  refine G_iretZ rfl dX0_run_168 ?_
  exact ⟨rfl, rfl⟩

theorem x_ask_3_3_0 (d : Nat) (τ : TT) (h : HT) (hT : TK τ) (o : Nat) (hP : ob_ τ o 5) (ho : 126 ≤ o) (hk : h o 1 = 3) (x dep : Int) (hra : 0 ≤ h 2 1 ∧ h 2 1 ≤ 900 - 20 * 3) (hdp : 0 ≤ dep ∧ dep ≤ 37) : S_ mX0_ask (d + 3) 0 0 [.inr (some 2), .inr (some o), .inl 3, .inl 0, .inl x, .inl dep] τ h (Zi τ fun v h' => v = (x * 3) + h o 2 ∧ h' = x_logs h [40, 10]) := by
  refine S_go (k := 2) (ls := [some (.inr (some 2)), some (.inr (some o)), some (.inl 3), some (.inl 0), some (.inl x), some (.inl dep), none, none]) (by decide) rfl (Nat.le_of_ble_eq_true rfl) rfl ?_
  refine G_iload_n (i := 2) dX0_ask_0 rfl rfl ?_
  refine G_istore (ls' := [some (.inr (some 2)), some (.inr (some o)), some (.inl 3), some (.inl 0), some (.inl x), some (.inl dep), some (.inl 3), none]) dX0_ask_1 (by decide) rfl ?_
  refine G_iconst dX0_ask_3 ?_
  refine G_istore (ls' := [some (.inr (some 2)), some (.inr (some o)), some (.inl 3), some (.inl 0), some (.inl x), some (.inl dep), some (.inl 3), some (.inl 0)]) dX0_ask_4 (by decide) rfl ?_
  refine G_iload dX0_ask_6 rfl ?_
  refine G_iconst dX0_ask_8 ?_
  refine G_icmp_ge (tgt := 44) dX0_ask_9 (by decide) (by decide) (by decide) (fun q => absurd q (by decide)) (fun _ => ?_)
  refine G_iload dX0_ask_12 rfl ?_
  refine G_if_le (tgt := 44) dX0_ask_14 (by decide) (by decide) (fun q => absurd q (by decide)) (fun _ => ?_)
  refine G_getsB (by decide +kernel) dX0_ask_17 ?_
  refine G_iconst dX0_ask_20 ?_
  refine G_iload dX0_ask_21 rfl ?_
  refine G_imul dX0_ask_23 ?_
  refine G_iload_n (i := 3) dX0_ask_24 rfl rfl ?_
  refine G_iadd dX0_ask_25 ?_
  refine G_ialdBv (v := 40) dX0_ask_26 (by decide) rfl ?_
  refine G_if_ne (tgt := 44) dX0_ask_27 (by decide) (by decide) (fun _ => ?_) (fun q => absurd q (by decide))
  refine G_iload dX0_ask_44 rfl ?_
  refine G_if_lt (tgt := 56) dX0_ask_46 (by decide) (by decide) (fun q => absurd q (by decide)) (fun _ => ?_)
  refine G_iload dX0_ask_49 rfl ?_
  refine G_bipush dX0_ask_51 (by decide) ?_
  refine G_icmp_le (tgt := 58) dX0_ask_53 (by decide) (by omega) (by decide) (fun c_1 => ?_) (fun c_1 => ?_)
  · refine G_getsB (by decide +kernel) dX0_ask_58 ?_
    refine G_iconst dX0_ask_61 ?_
    refine G_iload dX0_ask_62 rfl ?_
    refine G_imul dX0_ask_64 ?_
    refine G_iload_n (i := 3) dX0_ask_65 rfl rfl ?_
    refine G_iadd dX0_ask_66 ?_
    refine G_ialdBv (v := 40) dX0_ask_67 (by decide) rfl ?_
    refine G_istore (ls' := [some (.inr (some 2)), some (.inr (some o)), some (.inl 3), some (.inl 0), some (.inl x), some (.inl dep), some (.inl 3), some (.inl 40)]) dX0_ask_68 (by decide) rfl ?_
    refine G_aload_n (i := 0) dX0_ask_70 rfl rfl ?_
    refine G_iload dX0_ask_71 rfl ?_
    refine G_cVv (as := [.inl 40]) qX0_34 (x_noteM (d + 2) τ h hT 40 (by first | omega | (simp only [x_logs_n, List.length_cons, List.length_nil]; omega))) rfl rfl (Nat.le_of_ble_eq_true rfl) (o2 hT) dX0_ask_73 (fun h' e' => ?_)
    subst e'
    refine G_aload_n (i := 0) dX0_ask_76 rfl rfl ?_
    refine G_aload_n (i := 1) dX0_ask_77 rfl rfl ?_
    refine G_iload dX0_ask_78 rfl ?_
    refine G_getsK (by decide +kernel) dX0_ask_80 ?_
    refine G_iload dX0_ask_83 rfl ?_
    refine G_ialdKv (v := 2) dX0_ask_85 (by decide) rfl ?_
    refine G_iload dX0_ask_86 rfl ?_
    refine G_iload dX0_ask_88 rfl ?_
    refine G_iconst dX0_ask_90 ?_
    refine G_iadd dX0_ask_91 ?_
    refine G_cVi (as := [.inr (some o), .inl 40, .inl 2, .inl x, .inl (dep + 1)]) qX0_38 (x_run_3_40 d τ (x_logs h [40]) hT o hP ho (by rw [x_logs_o [40] (by omega)]; exact hk) x (dep + 1) (by first | omega | (simp only [x_logs_n, List.length_cons, List.length_nil]; omega)) (by omega)) rfl rfl (Nat.le_of_ble_eq_true rfl) (o2 hT) dX0_ask_92 (fun v' h' e' => ?_)
    obtain ⟨rfl, rfl⟩ := e'
    refine G_iretZ rfl dX0_ask_95 ?_
    exact ⟨by simp only [x_logs_o [40] (show o ≠ 2 ∧ o ≠ 3 by omega)], rfl⟩
  · refine G_iconst dX0_ask_56 ?_
    refine G_iretZ rfl dX0_ask_57 ?_
    exfalso; omega

theorem x_run_3_11 (d : Nat) (τ : TT) (h : HT) (hT : TK τ) (o : Nat) (hP : ob_ τ o 5) (ho : 126 ≤ o) (hk : h o 1 = 3) (x dep : Int) (hra : 0 ≤ h 2 1 ∧ h 2 1 ≤ 900 - 20 * 4) (hdp : 0 ≤ dep ∧ dep ≤ 36) : S_ mX0_run (d + 4) 0 0 [.inr (some 2), .inr (some o), .inl 11, .inl (-1), .inl x, .inl dep] τ h (Zi τ fun v h' => v = ((x * 3) + h o 2) - h o 3 ∧ h' = x_logs h [40, 10]) := by
  refine S_go (k := 1) (ls := [some (.inr (some 2)), some (.inr (some o)), some (.inl 11), some (.inl (-1)), some (.inl x), some (.inl dep), none]) (by decide) rfl (Nat.le_of_ble_eq_true rfl) rfl ?_
  refine G_aload_n (i := 1) dX0_run_0 rfl rfl ?_
  refine G_getI (v := 3) fX0_19 rfl dX0_run_1 hP (hk) ?_
  refine G_istore (ls' := [some (.inr (some 2)), some (.inr (some o)), some (.inl 11), some (.inl (-1)), some (.inl x), some (.inl dep), some (.inl 3)]) dX0_run_4 (by decide) rfl ?_
  refine G_iload_n (i := 2) dX0_run_6 rfl rfl ?_
  refine G_lsw (off := 73) (tgt := 80) dX0_run_7 (by decide) (by decide) (by decide) (by decide) ?_
  refine G_aload_n (i := 0) dX0_run_80 rfl rfl ?_
  refine G_aload_n (i := 1) dX0_run_81 rfl rfl ?_
  refine G_iload dX0_run_82 rfl ?_
  refine G_iconst dX0_run_84 ?_
  refine G_iload dX0_run_85 rfl ?_
  refine G_iload dX0_run_87 rfl ?_
  refine G_cVi (as := [.inr (some o), .inl 3, .inl 0, .inl x, .inl dep]) qX0_24 (x_ask_3_3_0 d τ h hT o hP ho hk x dep (by first | omega | (simp only [x_logs_n, List.length_cons, List.length_nil]; omega)) (by omega)) rfl rfl (Nat.le_of_ble_eq_true rfl) (o2 hT) dX0_run_89 (fun v' h' e' => ?_)
  obtain ⟨rfl, rfl⟩ := e'
  refine G_aload_n (i := 1) dX0_run_92 rfl rfl ?_
  refine G_getI (v := h o 3) fX0_44 rfl dX0_run_93 hP (x_logs_o [40, 10] (by omega)) ?_
  refine G_isub dX0_run_96 ?_
  refine G_iretZ rfl dX0_run_97 ?_
  exact ⟨by simp only [x_logs_o [40, 10] (show o ≠ 2 ∧ o ≠ 3 by omega)], rfl⟩

theorem x_ask_3_0_1 (d : Nat) (τ : TT) (h : HT) (hT : TK τ) (o : Nat) (hP : ob_ τ o 5) (ho : 126 ≤ o) (hk : h o 1 = 3) (x dep : Int) (hra : 0 ≤ h 2 1 ∧ h 2 1 ≤ 900 - 20 * 5) (hdp : 0 ≤ dep ∧ dep ≤ 35) : S_ mX0_ask (d + 5) 0 0 [.inr (some 2), .inr (some o), .inl 0, .inl 1, .inl x, .inl dep] τ h (Zi τ fun v h' => v = ((x * 3) + h o 2) - h o 3 ∧ h' = x_logs h [11, 40, 10]) := by
  refine S_go (k := 2) (ls := [some (.inr (some 2)), some (.inr (some o)), some (.inl 0), some (.inl 1), some (.inl x), some (.inl dep), none, none]) (by decide) rfl (Nat.le_of_ble_eq_true rfl) rfl ?_
  refine G_iload_n (i := 2) dX0_ask_0 rfl rfl ?_
  refine G_istore (ls' := [some (.inr (some 2)), some (.inr (some o)), some (.inl 0), some (.inl 1), some (.inl x), some (.inl dep), some (.inl 0), none]) dX0_ask_1 (by decide) rfl ?_
  refine G_iconst dX0_ask_3 ?_
  refine G_istore (ls' := [some (.inr (some 2)), some (.inr (some o)), some (.inl 0), some (.inl 1), some (.inl x), some (.inl dep), some (.inl 0), some (.inl 0)]) dX0_ask_4 (by decide) rfl ?_
  refine G_iload dX0_ask_6 rfl ?_
  refine G_iconst dX0_ask_8 ?_
  refine G_icmp_ge (tgt := 44) dX0_ask_9 (by decide) (by decide) (by decide) (fun q => absurd q (by decide)) (fun _ => ?_)
  refine G_iload dX0_ask_12 rfl ?_
  refine G_if_le (tgt := 44) dX0_ask_14 (by decide) (by decide) (fun _ => ?_) (fun q => absurd q (by decide))
  refine G_iload dX0_ask_44 rfl ?_
  refine G_if_lt (tgt := 56) dX0_ask_46 (by decide) (by decide) (fun q => absurd q (by decide)) (fun _ => ?_)
  refine G_iload dX0_ask_49 rfl ?_
  refine G_bipush dX0_ask_51 (by decide) ?_
  refine G_icmp_le (tgt := 58) dX0_ask_53 (by decide) (by omega) (by decide) (fun c_1 => ?_) (fun c_1 => ?_)
  · refine G_getsB (by decide +kernel) dX0_ask_58 ?_
    refine G_iconst dX0_ask_61 ?_
    refine G_iload dX0_ask_62 rfl ?_
    refine G_imul dX0_ask_64 ?_
    refine G_iload_n (i := 3) dX0_ask_65 rfl rfl ?_
    refine G_iadd dX0_ask_66 ?_
    refine G_ialdBv (v := 11) dX0_ask_67 (by decide) rfl ?_
    refine G_istore (ls' := [some (.inr (some 2)), some (.inr (some o)), some (.inl 0), some (.inl 1), some (.inl x), some (.inl dep), some (.inl 0), some (.inl 11)]) dX0_ask_68 (by decide) rfl ?_
    refine G_aload_n (i := 0) dX0_ask_70 rfl rfl ?_
    refine G_iload dX0_ask_71 rfl ?_
    refine G_cVv (as := [.inl 11]) qX0_34 (x_noteM (d + 4) τ h hT 11 (by first | omega | (simp only [x_logs_n, List.length_cons, List.length_nil]; omega))) rfl rfl (Nat.le_of_ble_eq_true rfl) (o2 hT) dX0_ask_73 (fun h' e' => ?_)
    subst e'
    refine G_aload_n (i := 0) dX0_ask_76 rfl rfl ?_
    refine G_aload_n (i := 1) dX0_ask_77 rfl rfl ?_
    refine G_iload dX0_ask_78 rfl ?_
    refine G_getsK (by decide +kernel) dX0_ask_80 ?_
    refine G_iload dX0_ask_83 rfl ?_
    refine G_ialdKv (v := (-1)) dX0_ask_85 (by decide) rfl ?_
    refine G_iload dX0_ask_86 rfl ?_
    refine G_iload dX0_ask_88 rfl ?_
    refine G_iconst dX0_ask_90 ?_
    refine G_iadd dX0_ask_91 ?_
    refine G_cVi (as := [.inr (some o), .inl 11, .inl (-1), .inl x, .inl (dep + 1)]) qX0_38 (x_run_3_11 d τ (x_logs h [11]) hT o hP ho (by rw [x_logs_o [11] (by omega)]; exact hk) x (dep + 1) (by first | omega | (simp only [x_logs_n, List.length_cons, List.length_nil]; omega)) (by omega)) rfl rfl (Nat.le_of_ble_eq_true rfl) (o2 hT) dX0_ask_92 (fun v' h' e' => ?_)
    obtain ⟨rfl, rfl⟩ := e'
    refine G_iretZ rfl dX0_ask_95 ?_
    exact ⟨by simp only [x_logs_o [11] (show o ≠ 2 ∧ o ≠ 3 by omega)], rfl⟩
  · refine G_iconst dX0_ask_56 ?_
    refine G_iretZ rfl dX0_ask_57 ?_
    exfalso; omega

theorem x_run_3_30 (d : Nat) (τ : TT) (h : HT) (hT : TK τ) (o : Nat) (hP : ob_ τ o 5) (ho : 126 ≤ o) (hk : h o 1 = 3) (x dep : Int) (hra : 0 ≤ h 2 1 ∧ h 2 1 ≤ 900 - 20 * 6) (hdp : 0 ≤ dep ∧ dep ≤ 34) : S_ mX0_run (d + 6) 0 0 [.inr (some 2), .inr (some o), .inl 30, .inl 0, .inl x, .inl dep] τ h (Zi τ fun v h' => v = (((x * 3) + h o 2) - h o 3) + ((x * 3) + h o 2) ∧ h' = x_logs h [11, 40, 10, 40, 10]) := by
  refine S_go (k := 1) (ls := [some (.inr (some 2)), some (.inr (some o)), some (.inl 30), some (.inl 0), some (.inl x), some (.inl dep), none]) (by decide) rfl (Nat.le_of_ble_eq_true rfl) rfl ?_
  refine G_aload_n (i := 1) dX0_run_0 rfl rfl ?_
  refine G_getI (v := 3) fX0_19 rfl dX0_run_1 hP (hk) ?_
  refine G_istore (ls' := [some (.inr (some 2)), some (.inr (some o)), some (.inl 30), some (.inl 0), some (.inl x), some (.inl dep), some (.inl 3)]) dX0_run_4 (by decide) rfl ?_
  refine G_iload_n (i := 2) dX0_run_6 rfl rfl ?_
  refine G_lsw (off := 123) (tgt := 130) dX0_run_7 (by decide) (by decide) (by decide) (by decide) ?_
  refine G_aload_n (i := 0) dX0_run_130 rfl rfl ?_
  refine G_aload_n (i := 1) dX0_run_131 rfl rfl ?_
  refine G_iload_n (i := 3) dX0_run_132 rfl rfl ?_
  refine G_iconst dX0_run_133 ?_
  refine G_iload dX0_run_134 rfl ?_
  refine G_iload dX0_run_136 rfl ?_
  refine G_cVi (as := [.inr (some o), .inl 0, .inl 1, .inl x, .inl dep]) qX0_24 (x_ask_3_0_1 d τ h hT o hP ho hk x dep (by first | omega | (simp only [x_logs_n, List.length_cons, List.length_nil]; omega)) (by omega)) rfl rfl (Nat.le_of_ble_eq_true rfl) (o2 hT) dX0_run_138 (fun v' h' e' => ?_)
  obtain ⟨rfl, rfl⟩ := e'
  refine G_aload_n (i := 0) dX0_run_141 rfl rfl ?_
  refine G_aload_n (i := 1) dX0_run_142 rfl rfl ?_
  refine G_iload dX0_run_143 rfl ?_
  refine G_iconst dX0_run_145 ?_
  refine G_iload dX0_run_146 rfl ?_
  refine G_iload dX0_run_148 rfl ?_
  refine G_cVi (as := [.inr (some o), .inl 3, .inl 0, .inl x, .inl dep]) qX0_24 (x_ask_3_3_0 (d + 2) τ (x_logs h [11, 40, 10]) hT o hP ho (by rw [x_logs_o [11, 40, 10] (by omega)]; exact hk) x dep (by first | omega | (simp only [x_logs_n, List.length_cons, List.length_nil]; omega)) (by omega)) rfl rfl (Nat.le_of_ble_eq_true rfl) (o2 hT) dX0_run_150 (fun v' h' e' => ?_)
  obtain ⟨rfl, rfl⟩ := e'
  refine G_iadd dX0_run_153 ?_
  refine G_iretZ rfl dX0_run_154 ?_
  exact ⟨by simp only [x_logs_o [11, 40, 10] (show o ≠ 2 ∧ o ≠ 3 by omega), x_logs_o [40, 10] (show o ≠ 2 ∧ o ≠ 3 by omega)], rfl⟩

theorem x_ask_3_2_1 (d : Nat) (τ : TT) (h : HT) (hT : TK τ) (o : Nat) (hP : ob_ τ o 5) (ho : 126 ≤ o) (hk : h o 1 = 3) (x dep : Int) (hra : 0 ≤ h 2 1 ∧ h 2 1 ≤ 900 - 20 * 7) (hdp : 0 ≤ dep ∧ dep ≤ 33) : S_ mX0_ask (d + 7) 0 0 [.inr (some 2), .inr (some o), .inl 2, .inl 1, .inl x, .inl dep] τ h (Zi τ fun v h' => v = (((x * 3) + h o 2) - h o 3) + ((x * 3) + h o 2) ∧ h' = x_logs h [30, 11, 40, 10, 40, 10]) := by
  refine S_go (k := 2) (ls := [some (.inr (some 2)), some (.inr (some o)), some (.inl 2), some (.inl 1), some (.inl x), some (.inl dep), none, none]) (by decide) rfl (Nat.le_of_ble_eq_true rfl) rfl ?_
  refine G_iload_n (i := 2) dX0_ask_0 rfl rfl ?_
  refine G_istore (ls' := [some (.inr (some 2)), some (.inr (some o)), some (.inl 2), some (.inl 1), some (.inl x), some (.inl dep), some (.inl 2), none]) dX0_ask_1 (by decide) rfl ?_
  refine G_iconst dX0_ask_3 ?_
  refine G_istore (ls' := [some (.inr (some 2)), some (.inr (some o)), some (.inl 2), some (.inl 1), some (.inl x), some (.inl dep), some (.inl 2), some (.inl 0)]) dX0_ask_4 (by decide) rfl ?_
  refine G_iload dX0_ask_6 rfl ?_
  refine G_iconst dX0_ask_8 ?_
  refine G_icmp_ge (tgt := 44) dX0_ask_9 (by decide) (by decide) (by decide) (fun q => absurd q (by decide)) (fun _ => ?_)
  refine G_iload dX0_ask_12 rfl ?_
  refine G_if_le (tgt := 44) dX0_ask_14 (by decide) (by decide) (fun q => absurd q (by decide)) (fun _ => ?_)
  refine G_getsB (by decide +kernel) dX0_ask_17 ?_
  refine G_iconst dX0_ask_20 ?_
  refine G_iload dX0_ask_21 rfl ?_
  refine G_imul dX0_ask_23 ?_
  refine G_iload_n (i := 3) dX0_ask_24 rfl rfl ?_
  refine G_iadd dX0_ask_25 ?_
  refine G_ialdBv (v := 30) dX0_ask_26 (by decide) rfl ?_
  refine G_if_ne (tgt := 44) dX0_ask_27 (by decide) (by decide) (fun _ => ?_) (fun q => absurd q (by decide))
  refine G_iload dX0_ask_44 rfl ?_
  refine G_if_lt (tgt := 56) dX0_ask_46 (by decide) (by decide) (fun q => absurd q (by decide)) (fun _ => ?_)
  refine G_iload dX0_ask_49 rfl ?_
  refine G_bipush dX0_ask_51 (by decide) ?_
  refine G_icmp_le (tgt := 58) dX0_ask_53 (by decide) (by omega) (by decide) (fun c_1 => ?_) (fun c_1 => ?_)
  · refine G_getsB (by decide +kernel) dX0_ask_58 ?_
    refine G_iconst dX0_ask_61 ?_
    refine G_iload dX0_ask_62 rfl ?_
    refine G_imul dX0_ask_64 ?_
    refine G_iload_n (i := 3) dX0_ask_65 rfl rfl ?_
    refine G_iadd dX0_ask_66 ?_
    refine G_ialdBv (v := 30) dX0_ask_67 (by decide) rfl ?_
    refine G_istore (ls' := [some (.inr (some 2)), some (.inr (some o)), some (.inl 2), some (.inl 1), some (.inl x), some (.inl dep), some (.inl 2), some (.inl 30)]) dX0_ask_68 (by decide) rfl ?_
    refine G_aload_n (i := 0) dX0_ask_70 rfl rfl ?_
    refine G_iload dX0_ask_71 rfl ?_
    refine G_cVv (as := [.inl 30]) qX0_34 (x_noteM (d + 6) τ h hT 30 (by first | omega | (simp only [x_logs_n, List.length_cons, List.length_nil]; omega))) rfl rfl (Nat.le_of_ble_eq_true rfl) (o2 hT) dX0_ask_73 (fun h' e' => ?_)
    subst e'
    refine G_aload_n (i := 0) dX0_ask_76 rfl rfl ?_
    refine G_aload_n (i := 1) dX0_ask_77 rfl rfl ?_
    refine G_iload dX0_ask_78 rfl ?_
    refine G_getsK (by decide +kernel) dX0_ask_80 ?_
    refine G_iload dX0_ask_83 rfl ?_
    refine G_ialdKv (v := 0) dX0_ask_85 (by decide) rfl ?_
    refine G_iload dX0_ask_86 rfl ?_
    refine G_iload dX0_ask_88 rfl ?_
    refine G_iconst dX0_ask_90 ?_
    refine G_iadd dX0_ask_91 ?_
    refine G_cVi (as := [.inr (some o), .inl 30, .inl 0, .inl x, .inl (dep + 1)]) qX0_38 (x_run_3_30 d τ (x_logs h [30]) hT o hP ho (by rw [x_logs_o [30] (by omega)]; exact hk) x (dep + 1) (by first | omega | (simp only [x_logs_n, List.length_cons, List.length_nil]; omega)) (by omega)) rfl rfl (Nat.le_of_ble_eq_true rfl) (o2 hT) dX0_ask_92 (fun v' h' e' => ?_)
    obtain ⟨rfl, rfl⟩ := e'
    refine G_iretZ rfl dX0_ask_95 ?_
    exact ⟨by simp only [x_logs_o [30] (show o ≠ 2 ∧ o ≠ 3 by omega)], rfl⟩
  · refine G_iconst dX0_ask_56 ?_
    refine G_iretZ rfl dX0_ask_57 ?_
    exfalso; omega

theorem x_run_3_41 (d : Nat) (τ : TT) (h : HT) (hT : TK τ) (o : Nat) (hP : ob_ τ o 5) (ho : 126 ≤ o) (hk : h o 1 = 3) (x dep : Int) (hra : 0 ≤ h 2 1 ∧ h 2 1 ≤ 900 - 20 * 8) (hdp : 0 ≤ dep ∧ dep ≤ 32) : S_ mX0_run (d + 8) 0 0 [.inr (some 2), .inr (some o), .inl 41, .inl 2, .inl x, .inl dep] τ h (Zi τ fun v h' => v = -((((x * 3) + h o 2) - h o 3) + ((x * 3) + h o 2)) ∧ h' = x_logs h [30, 11, 40, 10, 40, 10]) := by
  refine S_go (k := 1) (ls := [some (.inr (some 2)), some (.inr (some o)), some (.inl 41), some (.inl 2), some (.inl x), some (.inl dep), none]) (by decide) rfl (Nat.le_of_ble_eq_true rfl) rfl ?_
  refine G_aload_n (i := 1) dX0_run_0 rfl rfl ?_
  refine G_getI (v := 3) fX0_19 rfl dX0_run_1 hP (hk) ?_
  refine G_istore (ls' := [some (.inr (some 2)), some (.inr (some o)), some (.inl 41), some (.inl 2), some (.inl x), some (.inl dep), some (.inl 3)]) dX0_run_4 (by decide) rfl ?_
  refine G_iload_n (i := 2) dX0_run_6 rfl rfl ?_
  refine G_lsw (off := 162) (tgt := 169) dX0_run_7 (by decide) (by decide) (by decide) (by decide) ?_
  refine G_aload_n (i := 0) dX0_run_169 rfl rfl ?_
  refine G_aload_n (i := 1) dX0_run_170 rfl rfl ?_
  refine G_iload_n (i := 3) dX0_run_171 rfl rfl ?_
  refine G_iconst dX0_run_172 ?_
  refine G_iload dX0_run_173 rfl ?_
  refine G_iload dX0_run_175 rfl ?_
  refine G_cVi (as := [.inr (some o), .inl 2, .inl 1, .inl x, .inl dep]) qX0_24 (x_ask_3_2_1 d τ h hT o hP ho hk x dep (by first | omega | (simp only [x_logs_n, List.length_cons, List.length_nil]; omega)) (by omega)) rfl rfl (Nat.le_of_ble_eq_true rfl) (o2 hT) dX0_run_177 (fun v' h' e' => ?_)
  obtain ⟨rfl, rfl⟩ := e'
  refine G_ineg dX0_run_180 ?_
  refine G_iretZ rfl dX0_run_181 ?_
  exact ⟨rfl, rfl⟩

theorem x_ask_3_3_1 (d : Nat) (τ : TT) (h : HT) (hT : TK τ) (o : Nat) (hP : ob_ τ o 5) (ho : 126 ≤ o) (hk : h o 1 = 3) (x dep : Int) (hra : 0 ≤ h 2 1 ∧ h 2 1 ≤ 900 - 20 * 9) (hdp : 0 ≤ dep ∧ dep ≤ 31) : S_ mX0_ask (d + 9) 0 0 [.inr (some 2), .inr (some o), .inl 3, .inl 1, .inl x, .inl dep] τ h (Zi τ fun v h' => v = -((((x * 3) + h o 2) - h o 3) + ((x * 3) + h o 2)) ∧ h' = x_logs h [41, 30, 11, 40, 10, 40, 10]) := by
  refine S_go (k := 2) (ls := [some (.inr (some 2)), some (.inr (some o)), some (.inl 3), some (.inl 1), some (.inl x), some (.inl dep), none, none]) (by decide) rfl (Nat.le_of_ble_eq_true rfl) rfl ?_
  refine G_iload_n (i := 2) dX0_ask_0 rfl rfl ?_
  refine G_istore (ls' := [some (.inr (some 2)), some (.inr (some o)), some (.inl 3), some (.inl 1), some (.inl x), some (.inl dep), some (.inl 3), none]) dX0_ask_1 (by decide) rfl ?_
  refine G_iconst dX0_ask_3 ?_
  refine G_istore (ls' := [some (.inr (some 2)), some (.inr (some o)), some (.inl 3), some (.inl 1), some (.inl x), some (.inl dep), some (.inl 3), some (.inl 0)]) dX0_ask_4 (by decide) rfl ?_
  refine G_iload dX0_ask_6 rfl ?_
  refine G_iconst dX0_ask_8 ?_
  refine G_icmp_ge (tgt := 44) dX0_ask_9 (by decide) (by decide) (by decide) (fun q => absurd q (by decide)) (fun _ => ?_)
  refine G_iload dX0_ask_12 rfl ?_
  refine G_if_le (tgt := 44) dX0_ask_14 (by decide) (by decide) (fun q => absurd q (by decide)) (fun _ => ?_)
  refine G_getsB (by decide +kernel) dX0_ask_17 ?_
  refine G_iconst dX0_ask_20 ?_
  refine G_iload dX0_ask_21 rfl ?_
  refine G_imul dX0_ask_23 ?_
  refine G_iload_n (i := 3) dX0_ask_24 rfl rfl ?_
  refine G_iadd dX0_ask_25 ?_
  refine G_ialdBv (v := 41) dX0_ask_26 (by decide) rfl ?_
  refine G_if_ne (tgt := 44) dX0_ask_27 (by decide) (by decide) (fun _ => ?_) (fun q => absurd q (by decide))
  refine G_iload dX0_ask_44 rfl ?_
  refine G_if_lt (tgt := 56) dX0_ask_46 (by decide) (by decide) (fun q => absurd q (by decide)) (fun _ => ?_)
  refine G_iload dX0_ask_49 rfl ?_
  refine G_bipush dX0_ask_51 (by decide) ?_
  refine G_icmp_le (tgt := 58) dX0_ask_53 (by decide) (by omega) (by decide) (fun c_1 => ?_) (fun c_1 => ?_)
  · refine G_getsB (by decide +kernel) dX0_ask_58 ?_
    refine G_iconst dX0_ask_61 ?_
    refine G_iload dX0_ask_62 rfl ?_
    refine G_imul dX0_ask_64 ?_
    refine G_iload_n (i := 3) dX0_ask_65 rfl rfl ?_
    refine G_iadd dX0_ask_66 ?_
    refine G_ialdBv (v := 41) dX0_ask_67 (by decide) rfl ?_
    refine G_istore (ls' := [some (.inr (some 2)), some (.inr (some o)), some (.inl 3), some (.inl 1), some (.inl x), some (.inl dep), some (.inl 3), some (.inl 41)]) dX0_ask_68 (by decide) rfl ?_
    refine G_aload_n (i := 0) dX0_ask_70 rfl rfl ?_
    refine G_iload dX0_ask_71 rfl ?_
    refine G_cVv (as := [.inl 41]) qX0_34 (x_noteM (d + 8) τ h hT 41 (by first | omega | (simp only [x_logs_n, List.length_cons, List.length_nil]; omega))) rfl rfl (Nat.le_of_ble_eq_true rfl) (o2 hT) dX0_ask_73 (fun h' e' => ?_)
    subst e'
    refine G_aload_n (i := 0) dX0_ask_76 rfl rfl ?_
    refine G_aload_n (i := 1) dX0_ask_77 rfl rfl ?_
    refine G_iload dX0_ask_78 rfl ?_
    refine G_getsK (by decide +kernel) dX0_ask_80 ?_
    refine G_iload dX0_ask_83 rfl ?_
    refine G_ialdKv (v := 2) dX0_ask_85 (by decide) rfl ?_
    refine G_iload dX0_ask_86 rfl ?_
    refine G_iload dX0_ask_88 rfl ?_
    refine G_iconst dX0_ask_90 ?_
    refine G_iadd dX0_ask_91 ?_
    refine G_cVi (as := [.inr (some o), .inl 41, .inl 2, .inl x, .inl (dep + 1)]) qX0_38 (x_run_3_41 d τ (x_logs h [41]) hT o hP ho (by rw [x_logs_o [41] (by omega)]; exact hk) x (dep + 1) (by first | omega | (simp only [x_logs_n, List.length_cons, List.length_nil]; omega)) (by omega)) rfl rfl (Nat.le_of_ble_eq_true rfl) (o2 hT) dX0_ask_92 (fun v' h' e' => ?_)
    obtain ⟨rfl, rfl⟩ := e'
    refine G_iretZ rfl dX0_ask_95 ?_
    exact ⟨by simp only [x_logs_o [41] (show o ≠ 2 ∧ o ≠ 3 by omega)], rfl⟩
  · refine G_iconst dX0_ask_56 ?_
    refine G_iretZ rfl dX0_ask_57 ?_
    exfalso; omega

theorem x_run_3_12 (d : Nat) (τ : TT) (h : HT) (hT : TK τ) (o : Nat) (hP : ob_ τ o 5) (ho : 126 ≤ o) (hk : h o 1 = 3) (x dep : Int) (hra : 0 ≤ h 2 1 ∧ h 2 1 ≤ 900 - 20 * 10) (hdp : 0 ≤ dep ∧ dep ≤ 30) : S_ mX0_run (d + 10) 0 0 [.inr (some 2), .inr (some o), .inl 12, .inl (-1), .inl x, .inl dep] τ h (Zi τ fun v h' => v = b_xor (-((((x * 3) + h o 2) - h o 3) + ((x * 3) + h o 2))) (h o 0) ∧ h' = x_logs h [41, 30, 11, 40, 10, 40, 10]) := by
  refine S_go (k := 1) (ls := [some (.inr (some 2)), some (.inr (some o)), some (.inl 12), some (.inl (-1)), some (.inl x), some (.inl dep), none]) (by decide) rfl (Nat.le_of_ble_eq_true rfl) rfl ?_
  refine G_aload_n (i := 1) dX0_run_0 rfl rfl ?_
  refine G_getI (v := 3) fX0_19 rfl dX0_run_1 hP (hk) ?_
  refine G_istore (ls' := [some (.inr (some 2)), some (.inr (some o)), some (.inl 12), some (.inl (-1)), some (.inl x), some (.inl dep), some (.inl 3)]) dX0_run_4 (by decide) rfl ?_
  refine G_iload_n (i := 2) dX0_run_6 rfl rfl ?_
  refine G_lsw (off := 91) (tgt := 98) dX0_run_7 (by decide) (by decide) (by decide) (by decide) ?_
  refine G_aload_n (i := 0) dX0_run_98 rfl rfl ?_
  refine G_aload_n (i := 1) dX0_run_99 rfl rfl ?_
  refine G_iload dX0_run_100 rfl ?_
  refine G_iconst dX0_run_102 ?_
  refine G_iload dX0_run_103 rfl ?_
  refine G_iload dX0_run_105 rfl ?_
  refine G_cVi (as := [.inr (some o), .inl 3, .inl 1, .inl x, .inl dep]) qX0_24 (x_ask_3_3_1 d τ h hT o hP ho hk x dep (by first | omega | (simp only [x_logs_n, List.length_cons, List.length_nil]; omega)) (by omega)) rfl rfl (Nat.le_of_ble_eq_true rfl) (o2 hT) dX0_run_107 (fun v' h' e' => ?_)
  obtain ⟨rfl, rfl⟩ := e'
  refine G_aload_n (i := 1) dX0_run_110 rfl rfl ?_
  refine G_getI (v := h o 0) fX0_47 rfl dX0_run_111 hP (x_logs_o [41, 30, 11, 40, 10, 40, 10] (by omega)) ?_
  refine G_ixor dX0_run_114 ?_
  refine G_iretZ rfl dX0_run_115 ?_
  exact ⟨by simp only [x_logs_o [41, 30, 11, 40, 10, 40, 10] (show o ≠ 2 ∧ o ≠ 3 by omega)], rfl⟩

theorem x_ask_3_3_2 (d : Nat) (τ : TT) (h : HT) (hT : TK τ) (o : Nat) (hP : ob_ τ o 5) (ho : 126 ≤ o) (hk : h o 1 = 3) (x dep : Int) (hra : 0 ≤ h 2 1 ∧ h 2 1 ≤ 900 - 20 * 11) (hdp : 0 ≤ dep ∧ dep ≤ 29) : S_ mX0_ask (d + 11) 0 0 [.inr (some 2), .inr (some o), .inl 3, .inl 2, .inl x, .inl dep] τ h (Zi τ fun v h' => v = b_xor (-((((x * 3) + h o 2) - h o 3) + ((x * 3) + h o 2))) (h o 0) ∧ h' = x_logs h [12, 41, 30, 11, 40, 10, 40, 10]) := by
  refine S_go (k := 2) (ls := [some (.inr (some 2)), some (.inr (some o)), some (.inl 3), some (.inl 2), some (.inl x), some (.inl dep), none, none]) (by decide) rfl (Nat.le_of_ble_eq_true rfl) rfl ?_
  refine G_iload_n (i := 2) dX0_ask_0 rfl rfl ?_
  refine G_istore (ls' := [some (.inr (some 2)), some (.inr (some o)), some (.inl 3), some (.inl 2), some (.inl x), some (.inl dep), some (.inl 3), none]) dX0_ask_1 (by decide) rfl ?_
  refine G_iconst dX0_ask_3 ?_
  refine G_istore (ls' := [some (.inr (some 2)), some (.inr (some o)), some (.inl 3), some (.inl 2), some (.inl x), some (.inl dep), some (.inl 3), some (.inl 0)]) dX0_ask_4 (by decide) rfl ?_
  refine G_iload dX0_ask_6 rfl ?_
  refine G_iconst dX0_ask_8 ?_
  refine G_icmp_ge (tgt := 44) dX0_ask_9 (by decide) (by decide) (by decide) (fun q => absurd q (by decide)) (fun _ => ?_)
  refine G_iload dX0_ask_12 rfl ?_
  refine G_if_le (tgt := 44) dX0_ask_14 (by decide) (by decide) (fun q => absurd q (by decide)) (fun _ => ?_)
  refine G_getsB (by decide +kernel) dX0_ask_17 ?_
  refine G_iconst dX0_ask_20 ?_
  refine G_iload dX0_ask_21 rfl ?_
  refine G_imul dX0_ask_23 ?_
  refine G_iload_n (i := 3) dX0_ask_24 rfl rfl ?_
  refine G_iadd dX0_ask_25 ?_
  refine G_ialdBv (v := 0) dX0_ask_26 (by decide) rfl ?_
  refine G_if_ne (tgt := 44) dX0_ask_27 (by decide) (by decide) (fun q => absurd q (by decide)) (fun _ => ?_)
  refine G_getsK (by decide +kernel) dX0_ask_30 ?_
  refine G_iload dX0_ask_33 rfl ?_
  refine G_ialdKv (v := 2) dX0_ask_35 (by decide) rfl ?_
  refine G_istore (ls' := [some (.inr (some 2)), some (.inr (some o)), some (.inl 3), some (.inl 2), some (.inl x), some (.inl dep), some (.inl 2), some (.inl 0)]) dX0_ask_36 (by decide) rfl ?_
  refine G_iinc (ls' := [some (.inr (some 2)), some (.inr (some o)), some (.inl 3), some (.inl 2), some (.inl x), some (.inl dep), some (.inl 2), some (.inl (0 + 1))]) dX0_ask_38 (by decide) rfl rfl ?_
  refine G_goto (tgt := 6) dX0_ask_41 (by decide) ?_
  refine G_iload dX0_ask_6 rfl ?_
  refine G_iconst dX0_ask_8 ?_
  refine G_icmp_ge (tgt := 44) dX0_ask_9 (by decide) (by decide) (by decide) (fun q => absurd q (by decide)) (fun _ => ?_)
  refine G_iload dX0_ask_12 rfl ?_
  refine G_if_le (tgt := 44) dX0_ask_14 (by decide) (by decide) (fun q => absurd q (by decide)) (fun _ => ?_)
  refine G_getsB (by decide +kernel) dX0_ask_17 ?_
  refine G_iconst dX0_ask_20 ?_
  refine G_iload dX0_ask_21 rfl ?_
  refine G_imul dX0_ask_23 ?_
  refine G_iload_n (i := 3) dX0_ask_24 rfl rfl ?_
  refine G_iadd dX0_ask_25 ?_
  refine G_ialdBv (v := 0) dX0_ask_26 (by decide) rfl ?_
  refine G_if_ne (tgt := 44) dX0_ask_27 (by decide) (by decide) (fun q => absurd q (by decide)) (fun _ => ?_)
  refine G_getsK (by decide +kernel) dX0_ask_30 ?_
  refine G_iload dX0_ask_33 rfl ?_
  refine G_ialdKv (v := 0) dX0_ask_35 (by decide) rfl ?_
  refine G_istore (ls' := [some (.inr (some 2)), some (.inr (some o)), some (.inl 3), some (.inl 2), some (.inl x), some (.inl dep), some (.inl 0), some (.inl (0 + 1))]) dX0_ask_36 (by decide) rfl ?_
  refine G_iinc (ls' := [some (.inr (some 2)), some (.inr (some o)), some (.inl 3), some (.inl 2), some (.inl x), some (.inl dep), some (.inl 0), some (.inl ((0 + 1) + 1))]) dX0_ask_38 (by decide) rfl rfl ?_
  refine G_goto (tgt := 6) dX0_ask_41 (by decide) ?_
  refine G_iload dX0_ask_6 rfl ?_
  refine G_iconst dX0_ask_8 ?_
  refine G_icmp_ge (tgt := 44) dX0_ask_9 (by decide) (by decide) (by decide) (fun q => absurd q (by decide)) (fun _ => ?_)
  refine G_iload dX0_ask_12 rfl ?_
  refine G_if_le (tgt := 44) dX0_ask_14 (by decide) (by decide) (fun _ => ?_) (fun q => absurd q (by decide))
  refine G_iload dX0_ask_44 rfl ?_
  refine G_if_lt (tgt := 56) dX0_ask_46 (by decide) (by decide) (fun q => absurd q (by decide)) (fun _ => ?_)
  refine G_iload dX0_ask_49 rfl ?_
  refine G_bipush dX0_ask_51 (by decide) ?_
  refine G_icmp_le (tgt := 58) dX0_ask_53 (by decide) (by omega) (by decide) (fun c_1 => ?_) (fun c_1 => ?_)
  · refine G_getsB (by decide +kernel) dX0_ask_58 ?_
    refine G_iconst dX0_ask_61 ?_
    refine G_iload dX0_ask_62 rfl ?_
    refine G_imul dX0_ask_64 ?_
    refine G_iload_n (i := 3) dX0_ask_65 rfl rfl ?_
    refine G_iadd dX0_ask_66 ?_
    refine G_ialdBv (v := 12) dX0_ask_67 (by decide) rfl ?_
    refine G_istore (ls' := [some (.inr (some 2)), some (.inr (some o)), some (.inl 3), some (.inl 2), some (.inl x), some (.inl dep), some (.inl 0), some (.inl 12)]) dX0_ask_68 (by decide) rfl ?_
    refine G_aload_n (i := 0) dX0_ask_70 rfl rfl ?_
    refine G_iload dX0_ask_71 rfl ?_
    refine G_cVv (as := [.inl 12]) qX0_34 (x_noteM (d + 10) τ h hT 12 (by first | omega | (simp only [x_logs_n, List.length_cons, List.length_nil]; omega))) rfl rfl (Nat.le_of_ble_eq_true rfl) (o2 hT) dX0_ask_73 (fun h' e' => ?_)
    subst e'
    refine G_aload_n (i := 0) dX0_ask_76 rfl rfl ?_
    refine G_aload_n (i := 1) dX0_ask_77 rfl rfl ?_
    refine G_iload dX0_ask_78 rfl ?_
    refine G_getsK (by decide +kernel) dX0_ask_80 ?_
    refine G_iload dX0_ask_83 rfl ?_
    refine G_ialdKv (v := (-1)) dX0_ask_85 (by decide) rfl ?_
    refine G_iload dX0_ask_86 rfl ?_
    refine G_iload dX0_ask_88 rfl ?_
    refine G_iconst dX0_ask_90 ?_
    refine G_iadd dX0_ask_91 ?_
    refine G_cVi (as := [.inr (some o), .inl 12, .inl (-1), .inl x, .inl (dep + 1)]) qX0_38 (x_run_3_12 d τ (x_logs h [12]) hT o hP ho (by rw [x_logs_o [12] (by omega)]; exact hk) x (dep + 1) (by first | omega | (simp only [x_logs_n, List.length_cons, List.length_nil]; omega)) (by omega)) rfl rfl (Nat.le_of_ble_eq_true rfl) (o2 hT) dX0_ask_92 (fun v' h' e' => ?_)
    obtain ⟨rfl, rfl⟩ := e'
    refine G_iretZ rfl dX0_ask_95 ?_
    exact ⟨by simp only [x_logs_o [12] (show o ≠ 2 ∧ o ≠ 3 by omega)], rfl⟩
  · refine G_iconst dX0_ask_56 ?_
    refine G_iretZ rfl dX0_ask_57 ?_
    exfalso; omega

theorem x_run_4_10 (d : Nat) (τ : TT) (h : HT) (hT : TK τ) (o : Nat) (hP : ob_ τ o 5) (ho : 126 ≤ o) (hk : h o 1 = 4) (x dep : Int) (hra : 0 ≤ h 2 1 ∧ h 2 1 ≤ 900 - 20 * 0) (hdp : 0 ≤ dep ∧ dep ≤ 40) : S_ mX0_run d 0 0 [.inr (some 2), .inr (some o), .inl 10, .inl (-1), .inl x, .inl dep] τ h (Zi τ fun v h' => v = x + h o 2 ∧ h' = x_logs h []) := by
  refine S_go (k := 1) (ls := [some (.inr (some 2)), some (.inr (some o)), some (.inl 10), some (.inl (-1)), some (.inl x), some (.inl dep), none]) (by decide) rfl (Nat.le_of_ble_eq_true rfl) rfl ?_
  refine G_aload_n (i := 1) dX0_run_0 rfl rfl ?_
  refine G_getI (v := 4) fX0_19 rfl dX0_run_1 hP (hk) ?_
  refine G_istore (ls' := [some (.inr (some 2)), some (.inr (some o)), some (.inl 10), some (.inl (-1)), some (.inl x), some (.inl dep), some (.inl 4)]) dX0_run_4 (by decide) rfl ?_
  refine G_iload_n (i := 2) dX0_run_6 rfl rfl ?_
  refine G_lsw (off := 65) (tgt := 72) dX0_run_7 (by decide) (by decide) (by decide) (by decide) ?_
  refine G_iload dX0_run_72 rfl ?_
  refine G_aload_n (i := 1) dX0_run_74 rfl rfl ?_
  refine G_getI (v := h o 2) fX0_41 rfl dX0_run_75 hP rfl ?_
  refine G_iadd dX0_run_78 ?_
  refine G_iretZ rfl dX0_run_79 ?_
  exact ⟨rfl, rfl⟩

theorem x_ask_4_4_0 (d : Nat) (τ : TT) (h : HT) (hT : TK τ) (o : Nat) (hP : ob_ τ o 5) (ho : 126 ≤ o) (hk : h o 1 = 4) (x dep : Int) (hra : 0 ≤ h 2 1 ∧ h 2 1 ≤ 900 - 20 * 1) (hdp : 0 ≤ dep ∧ dep ≤ 39) : S_ mX0_ask (d + 1) 0 0 [.inr (some 2), .inr (some o), .inl 4, .inl 0, .inl x, .inl dep] τ h (Zi τ fun v h' => v = x + h o 2 ∧ h' = x_logs h [10]) := by
  refine S_go (k := 2) (ls := [some (.inr (some 2)), some (.inr (some o)), some (.inl 4), some (.inl 0), some (.inl x), some (.inl dep), none, none]) (by decide) rfl (Nat.le_of_ble_eq_true rfl) rfl ?_
  refine G_iload_n (i := 2) dX0_ask_0 rfl rfl ?_
  refine G_istore (ls' := [some (.inr (some 2)), some (.inr (some o)), some (.inl 4), some (.inl 0), some (.inl x), some (.inl dep), some (.inl 4), none]) dX0_ask_1 (by decide) rfl ?_
  refine G_iconst dX0_ask_3 ?_
  refine G_istore (ls' := [some (.inr (some 2)), some (.inr (some o)), some (.inl 4), some (.inl 0), some (.inl x), some (.inl dep), some (.inl 4), some (.inl 0)]) dX0_ask_4 (by decide) rfl ?_
  refine G_iload dX0_ask_6 rfl ?_
  refine G_iconst dX0_ask_8 ?_
  refine G_icmp_ge (tgt := 44) dX0_ask_9 (by decide) (by decide) (by decide) (fun q => absurd q (by decide)) (fun _ => ?_)
  refine G_iload dX0_ask_12 rfl ?_
  refine G_if_le (tgt := 44) dX0_ask_14 (by decide) (by decide) (fun q => absurd q (by decide)) (fun _ => ?_)
  refine G_getsB (by decide +kernel) dX0_ask_17 ?_
  refine G_iconst dX0_ask_20 ?_
  refine G_iload dX0_ask_21 rfl ?_
  refine G_imul dX0_ask_23 ?_
  refine G_iload_n (i := 3) dX0_ask_24 rfl rfl ?_
  refine G_iadd dX0_ask_25 ?_
  refine G_ialdBv (v := 0) dX0_ask_26 (by decide) rfl ?_
  refine G_if_ne (tgt := 44) dX0_ask_27 (by decide) (by decide) (fun q => absurd q (by decide)) (fun _ => ?_)
  refine G_getsK (by decide +kernel) dX0_ask_30 ?_
  refine G_iload dX0_ask_33 rfl ?_
  refine G_ialdKv (v := 0) dX0_ask_35 (by decide) rfl ?_
  refine G_istore (ls' := [some (.inr (some 2)), some (.inr (some o)), some (.inl 4), some (.inl 0), some (.inl x), some (.inl dep), some (.inl 0), some (.inl 0)]) dX0_ask_36 (by decide) rfl ?_
  refine G_iinc (ls' := [some (.inr (some 2)), some (.inr (some o)), some (.inl 4), some (.inl 0), some (.inl x), some (.inl dep), some (.inl 0), some (.inl (0 + 1))]) dX0_ask_38 (by decide) rfl rfl ?_
  refine G_goto (tgt := 6) dX0_ask_41 (by decide) ?_
  refine G_iload dX0_ask_6 rfl ?_
  refine G_iconst dX0_ask_8 ?_
  refine G_icmp_ge (tgt := 44) dX0_ask_9 (by decide) (by decide) (by decide) (fun q => absurd q (by decide)) (fun _ => ?_)
  refine G_iload dX0_ask_12 rfl ?_
  refine G_if_le (tgt := 44) dX0_ask_14 (by decide) (by decide) (fun _ => ?_) (fun q => absurd q (by decide))
  refine G_iload dX0_ask_44 rfl ?_
  refine G_if_lt (tgt := 56) dX0_ask_46 (by decide) (by decide) (fun q => absurd q (by decide)) (fun _ => ?_)
  refine G_iload dX0_ask_49 rfl ?_
  refine G_bipush dX0_ask_51 (by decide) ?_
  refine G_icmp_le (tgt := 58) dX0_ask_53 (by decide) (by omega) (by decide) (fun c_1 => ?_) (fun c_1 => ?_)
  · refine G_getsB (by decide +kernel) dX0_ask_58 ?_
    refine G_iconst dX0_ask_61 ?_
    refine G_iload dX0_ask_62 rfl ?_
    refine G_imul dX0_ask_64 ?_
    refine G_iload_n (i := 3) dX0_ask_65 rfl rfl ?_
    refine G_iadd dX0_ask_66 ?_
    refine G_ialdBv (v := 10) dX0_ask_67 (by decide) rfl ?_
    refine G_istore (ls' := [some (.inr (some 2)), some (.inr (some o)), some (.inl 4), some (.inl 0), some (.inl x), some (.inl dep), some (.inl 0), some (.inl 10)]) dX0_ask_68 (by decide) rfl ?_
    refine G_aload_n (i := 0) dX0_ask_70 rfl rfl ?_
    refine G_iload dX0_ask_71 rfl ?_
    refine G_cVv (as := [.inl 10]) qX0_34 (x_noteM d τ h hT 10 (by first | omega | (simp only [x_logs_n, List.length_cons, List.length_nil]; omega))) rfl rfl (Nat.le_of_ble_eq_true rfl) (o2 hT) dX0_ask_73 (fun h' e' => ?_)
    subst e'
    refine G_aload_n (i := 0) dX0_ask_76 rfl rfl ?_
    refine G_aload_n (i := 1) dX0_ask_77 rfl rfl ?_
    refine G_iload dX0_ask_78 rfl ?_
    refine G_getsK (by decide +kernel) dX0_ask_80 ?_
    refine G_iload dX0_ask_83 rfl ?_
    refine G_ialdKv (v := (-1)) dX0_ask_85 (by decide) rfl ?_
    refine G_iload dX0_ask_86 rfl ?_
    refine G_iload dX0_ask_88 rfl ?_
    refine G_iconst dX0_ask_90 ?_
    refine G_iadd dX0_ask_91 ?_
    refine G_cVi (as := [.inr (some o), .inl 10, .inl (-1), .inl x, .inl (dep + 1)]) qX0_38 (x_run_4_10 d τ (x_logs h [10]) hT o hP ho (by rw [x_logs_o [10] (by omega)]; exact hk) x (dep + 1) (by first | omega | (simp only [x_logs_n, List.length_cons, List.length_nil]; omega)) (by omega)) rfl rfl (Nat.le_of_ble_eq_true rfl) (o2 hT) dX0_ask_92 (fun v' h' e' => ?_)
    obtain ⟨rfl, rfl⟩ := e'
    refine G_iretZ rfl dX0_ask_95 ?_
    exact ⟨by simp only [x_logs_o [10] (show o ≠ 2 ∧ o ≠ 3 by omega)], rfl⟩
  · refine G_iconst dX0_ask_56 ?_
    refine G_iretZ rfl dX0_ask_57 ?_
    exfalso; omega

theorem x_run_4_11 (d : Nat) (τ : TT) (h : HT) (hT : TK τ) (o : Nat) (hP : ob_ τ o 5) (ho : 126 ≤ o) (hk : h o 1 = 4) (x dep : Int) (hra : 0 ≤ h 2 1 ∧ h 2 1 ≤ 900 - 20 * 2) (hdp : 0 ≤ dep ∧ dep ≤ 38) : S_ mX0_run (d + 2) 0 0 [.inr (some 2), .inr (some o), .inl 11, .inl (-1), .inl x, .inl dep] τ h (Zi τ fun v h' => v = (x + h o 2) - h o 3 ∧ h' = x_logs h [10]) := by
  refine S_go (k := 1) (ls := [some (.inr (some 2)), some (.inr (some o)), some (.inl 11), some (.inl (-1)), some (.inl x), some (.inl dep), none]) (by decide) rfl (Nat.le_of_ble_eq_true rfl) rfl ?_
  refine G_aload_n (i := 1) dX0_run_0 rfl rfl ?_
  refine G_getI (v := 4) fX0_19 rfl dX0_run_1 hP (hk) ?_
  refine G_istore (ls' := [some (.inr (some 2)), some (.inr (some o)), some (.inl 11), some (.inl (-1)), some (.inl x), some (.inl dep), some (.inl 4)]) dX0_run_4 (by decide) rfl ?_
  refine G_iload_n (i := 2) dX0_run_6 rfl rfl ?_
  refine G_lsw (off := 73) (tgt := 80) dX0_run_7 (by decide) (by decide) (by decide) (by decide) ?_
  refine G_aload_n (i := 0) dX0_run_80 rfl rfl ?_
  refine G_aload_n (i := 1) dX0_run_81 rfl rfl ?_
  refine G_iload dX0_run_82 rfl ?_
  refine G_iconst dX0_run_84 ?_
  refine G_iload dX0_run_85 rfl ?_
  refine G_iload dX0_run_87 rfl ?_
  refine G_cVi (as := [.inr (some o), .inl 4, .inl 0, .inl x, .inl dep]) qX0_24 (x_ask_4_4_0 d τ h hT o hP ho hk x dep (by first | omega | (simp only [x_logs_n, List.length_cons, List.length_nil]; omega)) (by omega)) rfl rfl (Nat.le_of_ble_eq_true rfl) (o2 hT) dX0_run_89 (fun v' h' e' => ?_)
  obtain ⟨rfl, rfl⟩ := e'
  refine G_aload_n (i := 1) dX0_run_92 rfl rfl ?_
  refine G_getI (v := h o 3) fX0_44 rfl dX0_run_93 hP (x_logs_o [10] (by omega)) ?_
  refine G_isub dX0_run_96 ?_
  refine G_iretZ rfl dX0_run_97 ?_
  exact ⟨by simp only [x_logs_o [10] (show o ≠ 2 ∧ o ≠ 3 by omega)], rfl⟩

theorem x_ask_4_4_1 (d : Nat) (τ : TT) (h : HT) (hT : TK τ) (o : Nat) (hP : ob_ τ o 5) (ho : 126 ≤ o) (hk : h o 1 = 4) (x dep : Int) (hra : 0 ≤ h 2 1 ∧ h 2 1 ≤ 900 - 20 * 3) (hdp : 0 ≤ dep ∧ dep ≤ 37) : S_ mX0_ask (d + 3) 0 0 [.inr (some 2), .inr (some o), .inl 4, .inl 1, .inl x, .inl dep] τ h (Zi τ fun v h' => v = (x + h o 2) - h o 3 ∧ h' = x_logs h [11, 10]) := by
  refine S_go (k := 2) (ls := [some (.inr (some 2)), some (.inr (some o)), some (.inl 4), some (.inl 1), some (.inl x), some (.inl dep), none, none]) (by decide) rfl (Nat.le_of_ble_eq_true rfl) rfl ?_
  refine G_iload_n (i := 2) dX0_ask_0 rfl rfl ?_
  refine G_istore (ls' := [some (.inr (some 2)), some (.inr (some o)), some (.inl 4), some (.inl 1), some (.inl x), some (.inl dep), some (.inl 4), none]) dX0_ask_1 (by decide) rfl ?_
  refine G_iconst dX0_ask_3 ?_
  refine G_istore (ls' := [some (.inr (some 2)), some (.inr (some o)), some (.inl 4), some (.inl 1), some (.inl x), some (.inl dep), some (.inl 4), some (.inl 0)]) dX0_ask_4 (by decide) rfl ?_
  refine G_iload dX0_ask_6 rfl ?_
  refine G_iconst dX0_ask_8 ?_
  refine G_icmp_ge (tgt := 44) dX0_ask_9 (by decide) (by decide) (by decide) (fun q => absurd q (by decide)) (fun _ => ?_)
  refine G_iload dX0_ask_12 rfl ?_
  refine G_if_le (tgt := 44) dX0_ask_14 (by decide) (by decide) (fun q => absurd q (by decide)) (fun _ => ?_)
  refine G_getsB (by decide +kernel) dX0_ask_17 ?_
  refine G_iconst dX0_ask_20 ?_
  refine G_iload dX0_ask_21 rfl ?_
  refine G_imul dX0_ask_23 ?_
  refine G_iload_n (i := 3) dX0_ask_24 rfl rfl ?_
  refine G_iadd dX0_ask_25 ?_
  refine G_ialdBv (v := 0) dX0_ask_26 (by decide) rfl ?_
  refine G_if_ne (tgt := 44) dX0_ask_27 (by decide) (by decide) (fun q => absurd q (by decide)) (fun _ => ?_)
  refine G_getsK (by decide +kernel) dX0_ask_30 ?_
  refine G_iload dX0_ask_33 rfl ?_
  refine G_ialdKv (v := 0) dX0_ask_35 (by decide) rfl ?_
  refine G_istore (ls' := [some (.inr (some 2)), some (.inr (some o)), some (.inl 4), some (.inl 1), some (.inl x), some (.inl dep), some (.inl 0), some (.inl 0)]) dX0_ask_36 (by decide) rfl ?_
  refine G_iinc (ls' := [some (.inr (some 2)), some (.inr (some o)), some (.inl 4), some (.inl 1), some (.inl x), some (.inl dep), some (.inl 0), some (.inl (0 + 1))]) dX0_ask_38 (by decide) rfl rfl ?_
  refine G_goto (tgt := 6) dX0_ask_41 (by decide) ?_
  refine G_iload dX0_ask_6 rfl ?_
  refine G_iconst dX0_ask_8 ?_
  refine G_icmp_ge (tgt := 44) dX0_ask_9 (by decide) (by decide) (by decide) (fun q => absurd q (by decide)) (fun _ => ?_)
  refine G_iload dX0_ask_12 rfl ?_
  refine G_if_le (tgt := 44) dX0_ask_14 (by decide) (by decide) (fun _ => ?_) (fun q => absurd q (by decide))
  refine G_iload dX0_ask_44 rfl ?_
  refine G_if_lt (tgt := 56) dX0_ask_46 (by decide) (by decide) (fun q => absurd q (by decide)) (fun _ => ?_)
  refine G_iload dX0_ask_49 rfl ?_
  refine G_bipush dX0_ask_51 (by decide) ?_
  refine G_icmp_le (tgt := 58) dX0_ask_53 (by decide) (by omega) (by decide) (fun c_1 => ?_) (fun c_1 => ?_)
  · refine G_getsB (by decide +kernel) dX0_ask_58 ?_
    refine G_iconst dX0_ask_61 ?_
    refine G_iload dX0_ask_62 rfl ?_
    refine G_imul dX0_ask_64 ?_
    refine G_iload_n (i := 3) dX0_ask_65 rfl rfl ?_
    refine G_iadd dX0_ask_66 ?_
    refine G_ialdBv (v := 11) dX0_ask_67 (by decide) rfl ?_
    refine G_istore (ls' := [some (.inr (some 2)), some (.inr (some o)), some (.inl 4), some (.inl 1), some (.inl x), some (.inl dep), some (.inl 0), some (.inl 11)]) dX0_ask_68 (by decide) rfl ?_
    refine G_aload_n (i := 0) dX0_ask_70 rfl rfl ?_
    refine G_iload dX0_ask_71 rfl ?_
    refine G_cVv (as := [.inl 11]) qX0_34 (x_noteM (d + 2) τ h hT 11 (by first | omega | (simp only [x_logs_n, List.length_cons, List.length_nil]; omega))) rfl rfl (Nat.le_of_ble_eq_true rfl) (o2 hT) dX0_ask_73 (fun h' e' => ?_)
    subst e'
    refine G_aload_n (i := 0) dX0_ask_76 rfl rfl ?_
    refine G_aload_n (i := 1) dX0_ask_77 rfl rfl ?_
    refine G_iload dX0_ask_78 rfl ?_
    refine G_getsK (by decide +kernel) dX0_ask_80 ?_
    refine G_iload dX0_ask_83 rfl ?_
    refine G_ialdKv (v := (-1)) dX0_ask_85 (by decide) rfl ?_
    refine G_iload dX0_ask_86 rfl ?_
    refine G_iload dX0_ask_88 rfl ?_
    refine G_iconst dX0_ask_90 ?_
    refine G_iadd dX0_ask_91 ?_
    refine G_cVi (as := [.inr (some o), .inl 11, .inl (-1), .inl x, .inl (dep + 1)]) qX0_38 (x_run_4_11 d τ (x_logs h [11]) hT o hP ho (by rw [x_logs_o [11] (by omega)]; exact hk) x (dep + 1) (by first | omega | (simp only [x_logs_n, List.length_cons, List.length_nil]; omega)) (by omega)) rfl rfl (Nat.le_of_ble_eq_true rfl) (o2 hT) dX0_ask_92 (fun v' h' e' => ?_)
    obtain ⟨rfl, rfl⟩ := e'
    refine G_iretZ rfl dX0_ask_95 ?_
    exact ⟨by simp only [x_logs_o [11] (show o ≠ 2 ∧ o ≠ 3 by omega)], rfl⟩
  · refine G_iconst dX0_ask_56 ?_
    refine G_iretZ rfl dX0_ask_57 ?_
    exfalso; omega

theorem x_run_4_12 (d : Nat) (τ : TT) (h : HT) (hT : TK τ) (o : Nat) (hP : ob_ τ o 5) (ho : 126 ≤ o) (hk : h o 1 = 4) (x dep : Int) (hra : 0 ≤ h 2 1 ∧ h 2 1 ≤ 900 - 20 * 4) (hdp : 0 ≤ dep ∧ dep ≤ 36) : S_ mX0_run (d + 4) 0 0 [.inr (some 2), .inr (some o), .inl 12, .inl (-1), .inl x, .inl dep] τ h (Zi τ fun v h' => v = b_xor ((x + h o 2) - h o 3) (h o 0) ∧ h' = x_logs h [11, 10]) := by
  refine S_go (k := 1) (ls := [some (.inr (some 2)), some (.inr (some o)), some (.inl 12), some (.inl (-1)), some (.inl x), some (.inl dep), none]) (by decide) rfl (Nat.le_of_ble_eq_true rfl) rfl ?_
  refine G_aload_n (i := 1) dX0_run_0 rfl rfl ?_
  refine G_getI (v := 4) fX0_19 rfl dX0_run_1 hP (hk) ?_
  refine G_istore (ls' := [some (.inr (some 2)), some (.inr (some o)), some (.inl 12), some (.inl (-1)), some (.inl x), some (.inl dep), some (.inl 4)]) dX0_run_4 (by decide) rfl ?_
  refine G_iload_n (i := 2) dX0_run_6 rfl rfl ?_
  refine G_lsw (off := 91) (tgt := 98) dX0_run_7 (by decide) (by decide) (by decide) (by decide) ?_
  refine G_aload_n (i := 0) dX0_run_98 rfl rfl ?_
  refine G_aload_n (i := 1) dX0_run_99 rfl rfl ?_
  refine G_iload dX0_run_100 rfl ?_
  refine G_iconst dX0_run_102 ?_
  refine G_iload dX0_run_103 rfl ?_
  refine G_iload dX0_run_105 rfl ?_
  refine G_cVi (as := [.inr (some o), .inl 4, .inl 1, .inl x, .inl dep]) qX0_24 (x_ask_4_4_1 d τ h hT o hP ho hk x dep (by first | omega | (simp only [x_logs_n, List.length_cons, List.length_nil]; omega)) (by omega)) rfl rfl (Nat.le_of_ble_eq_true rfl) (o2 hT) dX0_run_107 (fun v' h' e' => ?_)
  obtain ⟨rfl, rfl⟩ := e'
  refine G_aload_n (i := 1) dX0_run_110 rfl rfl ?_
  refine G_getI (v := h o 0) fX0_47 rfl dX0_run_111 hP (x_logs_o [11, 10] (by omega)) ?_
  refine G_ixor dX0_run_114 ?_
  refine G_iretZ rfl dX0_run_115 ?_
  exact ⟨by simp only [x_logs_o [11, 10] (show o ≠ 2 ∧ o ≠ 3 by omega)], rfl⟩

theorem x_ask_4_0_2 (d : Nat) (τ : TT) (h : HT) (hT : TK τ) (o : Nat) (hP : ob_ τ o 5) (ho : 126 ≤ o) (hk : h o 1 = 4) (x dep : Int) (hra : 0 ≤ h 2 1 ∧ h 2 1 ≤ 900 - 20 * 5) (hdp : 0 ≤ dep ∧ dep ≤ 35) : S_ mX0_ask (d + 5) 0 0 [.inr (some 2), .inr (some o), .inl 0, .inl 2, .inl x, .inl dep] τ h (Zi τ fun v h' => v = b_xor ((x + h o 2) - h o 3) (h o 0) ∧ h' = x_logs h [12, 11, 10]) := by
  refine S_go (k := 2) (ls := [some (.inr (some 2)), some (.inr (some o)), some (.inl 0), some (.inl 2), some (.inl x), some (.inl dep), none, none]) (by decide) rfl (Nat.le_of_ble_eq_true rfl) rfl ?_
  refine G_iload_n (i := 2) dX0_ask_0 rfl rfl ?_
  refine G_istore (ls' := [some (.inr (some 2)), some (.inr (some o)), some (.inl 0), some (.inl 2), some (.inl x), some (.inl dep), some (.inl 0), none]) dX0_ask_1 (by decide) rfl ?_
  refine G_iconst dX0_ask_3 ?_
  refine G_istore (ls' := [some (.inr (some 2)), some (.inr (some o)), some (.inl 0), some (.inl 2), some (.inl x), some (.inl dep), some (.inl 0), some (.inl 0)]) dX0_ask_4 (by decide) rfl ?_
  refine G_iload dX0_ask_6 rfl ?_
  refine G_iconst dX0_ask_8 ?_
  refine G_icmp_ge (tgt := 44) dX0_ask_9 (by decide) (by decide) (by decide) (fun q => absurd q (by decide)) (fun _ => ?_)
  refine G_iload dX0_ask_12 rfl ?_
  refine G_if_le (tgt := 44) dX0_ask_14 (by decide) (by decide) (fun _ => ?_) (fun q => absurd q (by decide))
  refine G_iload dX0_ask_44 rfl ?_
  refine G_if_lt (tgt := 56) dX0_ask_46 (by decide) (by decide) (fun q => absurd q (by decide)) (fun _ => ?_)
  refine G_iload dX0_ask_49 rfl ?_
  refine G_bipush dX0_ask_51 (by decide) ?_
  refine G_icmp_le (tgt := 58) dX0_ask_53 (by decide) (by omega) (by decide) (fun c_1 => ?_) (fun c_1 => ?_)
  · refine G_getsB (by decide +kernel) dX0_ask_58 ?_
    refine G_iconst dX0_ask_61 ?_
    refine G_iload dX0_ask_62 rfl ?_
    refine G_imul dX0_ask_64 ?_
    refine G_iload_n (i := 3) dX0_ask_65 rfl rfl ?_
    refine G_iadd dX0_ask_66 ?_
    refine G_ialdBv (v := 12) dX0_ask_67 (by decide) rfl ?_
    refine G_istore (ls' := [some (.inr (some 2)), some (.inr (some o)), some (.inl 0), some (.inl 2), some (.inl x), some (.inl dep), some (.inl 0), some (.inl 12)]) dX0_ask_68 (by decide) rfl ?_
    refine G_aload_n (i := 0) dX0_ask_70 rfl rfl ?_
    refine G_iload dX0_ask_71 rfl ?_
    refine G_cVv (as := [.inl 12]) qX0_34 (x_noteM (d + 4) τ h hT 12 (by first | omega | (simp only [x_logs_n, List.length_cons, List.length_nil]; omega))) rfl rfl (Nat.le_of_ble_eq_true rfl) (o2 hT) dX0_ask_73 (fun h' e' => ?_)
    subst e'
    refine G_aload_n (i := 0) dX0_ask_76 rfl rfl ?_
    refine G_aload_n (i := 1) dX0_ask_77 rfl rfl ?_
    refine G_iload dX0_ask_78 rfl ?_
    refine G_getsK (by decide +kernel) dX0_ask_80 ?_
    refine G_iload dX0_ask_83 rfl ?_
    refine G_ialdKv (v := (-1)) dX0_ask_85 (by decide) rfl ?_
    refine G_iload dX0_ask_86 rfl ?_
    refine G_iload dX0_ask_88 rfl ?_
    refine G_iconst dX0_ask_90 ?_
    refine G_iadd dX0_ask_91 ?_
    refine G_cVi (as := [.inr (some o), .inl 12, .inl (-1), .inl x, .inl (dep + 1)]) qX0_38 (x_run_4_12 d τ (x_logs h [12]) hT o hP ho (by rw [x_logs_o [12] (by omega)]; exact hk) x (dep + 1) (by first | omega | (simp only [x_logs_n, List.length_cons, List.length_nil]; omega)) (by omega)) rfl rfl (Nat.le_of_ble_eq_true rfl) (o2 hT) dX0_ask_92 (fun v' h' e' => ?_)
    obtain ⟨rfl, rfl⟩ := e'
    refine G_iretZ rfl dX0_ask_95 ?_
    exact ⟨by simp only [x_logs_o [12] (show o ≠ 2 ∧ o ≠ 3 by omega)], rfl⟩
  · refine G_iconst dX0_ask_56 ?_
    refine G_iretZ rfl dX0_ask_57 ?_
    exfalso; omega

theorem x_run_4_50 (d : Nat) (τ : TT) (h : HT) (hT : TK τ) (o : Nat) (hP : ob_ τ o 5) (ho : 126 ≤ o) (hk : h o 1 = 4) (x dep : Int) (hra : 0 ≤ h 2 1 ∧ h 2 1 ≤ 900 - 20 * 6) (hdp : 0 ≤ dep ∧ dep ≤ 34) : S_ mX0_run (d + 6) 0 0 [.inr (some 2), .inr (some o), .inl 50, .inl 0, .inl x, .inl dep] τ h (Zi τ fun v h' => v = ((x + h o 2) - h o 3) + (b_xor (((x - 1) + h o 2) - h o 3) (h o 0)) ∧ h' = x_logs h [11, 10, 12, 11, 10]) := by
  refine S_go (k := 1) (ls := [some (.inr (some 2)), some (.inr (some o)), some (.inl 50), some (.inl 0), some (.inl x), some (.inl dep), none]) (by decide) rfl (Nat.le_of_ble_eq_true rfl) rfl ?_
  refine G_aload_n (i := 1) dX0_run_0 rfl rfl ?_
  refine G_getI (v := 4) fX0_19 rfl dX0_run_1 hP (hk) ?_
  refine G_istore (ls' := [some (.inr (some 2)), some (.inr (some o)), some (.inl 50), some (.inl 0), some (.inl x), some (.inl dep), some (.inl 4)]) dX0_run_4 (by decide) rfl ?_
  refine G_iload_n (i := 2) dX0_run_6 rfl rfl ?_
  refine G_lsw (off := 175) (tgt := 182) dX0_run_7 (by decide) (by decide) (by decide) (by decide) ?_
  refine G_aload_n (i := 0) dX0_run_182 rfl rfl ?_
  refine G_aload_n (i := 1) dX0_run_183 rfl rfl ?_
  refine G_iload dX0_run_184 rfl ?_
  refine G_iconst dX0_run_186 ?_
  refine G_iload dX0_run_187 rfl ?_
  refine G_iload dX0_run_189 rfl ?_
  refine G_cVi (as := [.inr (some o), .inl 4, .inl 1, .inl x, .inl dep]) qX0_24 (x_ask_4_4_1 (d + 2) τ h hT o hP ho hk x dep (by first | omega | (simp only [x_logs_n, List.length_cons, List.length_nil]; omega)) (by omega)) rfl rfl (Nat.le_of_ble_eq_true rfl) (o2 hT) dX0_run_191 (fun v' h' e' => ?_)
  obtain ⟨rfl, rfl⟩ := e'
  refine G_aload_n (i := 0) dX0_run_194 rfl rfl ?_
  refine G_aload_n (i := 1) dX0_run_195 rfl rfl ?_
  refine G_iload_n (i := 3) dX0_run_196 rfl rfl ?_
  refine G_iconst dX0_run_197 ?_
  refine G_iload dX0_run_198 rfl ?_
  refine G_iconst dX0_run_200 ?_
  refine G_isub dX0_run_201 ?_
  refine G_iload dX0_run_202 rfl ?_
  refine G_cVi (as := [.inr (some o), .inl 0, .inl 2, .inl (x - 1), .inl dep]) qX0_24 (x_ask_4_0_2 d τ (x_logs h [11, 10]) hT o hP ho (by rw [x_logs_o [11, 10] (by omega)]; exact hk) (x - 1) dep (by first | omega | (simp only [x_logs_n, List.length_cons, List.length_nil]; omega)) (by omega)) rfl rfl (Nat.le_of_ble_eq_true rfl) (o2 hT) dX0_run_204 (fun v' h' e' => ?_)
  obtain ⟨rfl, rfl⟩ := e'
  refine G_iadd dX0_run_207 ?_
  refine G_iretZ rfl dX0_run_208 ?_
  exact ⟨by simp only [x_logs_o [11, 10] (show o ≠ 2 ∧ o ≠ 3 by omega), x_logs_o [12, 11, 10] (show o ≠ 2 ∧ o ≠ 3 by omega)], rfl⟩

theorem x_ask_4_4_2 (d : Nat) (τ : TT) (h : HT) (hT : TK τ) (o : Nat) (hP : ob_ τ o 5) (ho : 126 ≤ o) (hk : h o 1 = 4) (x dep : Int) (hra : 0 ≤ h 2 1 ∧ h 2 1 ≤ 900 - 20 * 7) (hdp : 0 ≤ dep ∧ dep ≤ 33) : S_ mX0_ask (d + 7) 0 0 [.inr (some 2), .inr (some o), .inl 4, .inl 2, .inl x, .inl dep] τ h (Zi τ fun v h' => v = ((x + h o 2) - h o 3) + (b_xor (((x - 1) + h o 2) - h o 3) (h o 0)) ∧ h' = x_logs h [50, 11, 10, 12, 11, 10]) := by
  refine S_go (k := 2) (ls := [some (.inr (some 2)), some (.inr (some o)), some (.inl 4), some (.inl 2), some (.inl x), some (.inl dep), none, none]) (by decide) rfl (Nat.le_of_ble_eq_true rfl) rfl ?_
  refine G_iload_n (i := 2) dX0_ask_0 rfl rfl ?_
  refine G_istore (ls' := [some (.inr (some 2)), some (.inr (some o)), some (.inl 4), some (.inl 2), some (.inl x), some (.inl dep), some (.inl 4), none]) dX0_ask_1 (by decide) rfl ?_
  refine G_iconst dX0_ask_3 ?_
  refine G_istore (ls' := [some (.inr (some 2)), some (.inr (some o)), some (.inl 4), some (.inl 2), some (.inl x), some (.inl dep), some (.inl 4), some (.inl 0)]) dX0_ask_4 (by decide) rfl ?_
  refine G_iload dX0_ask_6 rfl ?_
  refine G_iconst dX0_ask_8 ?_
  refine G_icmp_ge (tgt := 44) dX0_ask_9 (by decide) (by decide) (by decide) (fun q => absurd q (by decide)) (fun _ => ?_)
  refine G_iload dX0_ask_12 rfl ?_
  refine G_if_le (tgt := 44) dX0_ask_14 (by decide) (by decide) (fun q => absurd q (by decide)) (fun _ => ?_)
  refine G_getsB (by decide +kernel) dX0_ask_17 ?_
  refine G_iconst dX0_ask_20 ?_
  refine G_iload dX0_ask_21 rfl ?_
  refine G_imul dX0_ask_23 ?_
  refine G_iload_n (i := 3) dX0_ask_24 rfl rfl ?_
  refine G_iadd dX0_ask_25 ?_
  refine G_ialdBv (v := 50) dX0_ask_26 (by decide) rfl ?_
  refine G_if_ne (tgt := 44) dX0_ask_27 (by decide) (by decide) (fun _ => ?_) (fun q => absurd q (by decide))
  refine G_iload dX0_ask_44 rfl ?_
  refine G_if_lt (tgt := 56) dX0_ask_46 (by decide) (by decide) (fun q => absurd q (by decide)) (fun _ => ?_)
  refine G_iload dX0_ask_49 rfl ?_
  refine G_bipush dX0_ask_51 (by decide) ?_
  refine G_icmp_le (tgt := 58) dX0_ask_53 (by decide) (by omega) (by decide) (fun c_1 => ?_) (fun c_1 => ?_)
  · refine G_getsB (by decide +kernel) dX0_ask_58 ?_
    refine G_iconst dX0_ask_61 ?_
    refine G_iload dX0_ask_62 rfl ?_
    refine G_imul dX0_ask_64 ?_
    refine G_iload_n (i := 3) dX0_ask_65 rfl rfl ?_
    refine G_iadd dX0_ask_66 ?_
    refine G_ialdBv (v := 50) dX0_ask_67 (by decide) rfl ?_
    refine G_istore (ls' := [some (.inr (some 2)), some (.inr (some o)), some (.inl 4), some (.inl 2), some (.inl x), some (.inl dep), some (.inl 4), some (.inl 50)]) dX0_ask_68 (by decide) rfl ?_
    refine G_aload_n (i := 0) dX0_ask_70 rfl rfl ?_
    refine G_iload dX0_ask_71 rfl ?_
    refine G_cVv (as := [.inl 50]) qX0_34 (x_noteM (d + 6) τ h hT 50 (by first | omega | (simp only [x_logs_n, List.length_cons, List.length_nil]; omega))) rfl rfl (Nat.le_of_ble_eq_true rfl) (o2 hT) dX0_ask_73 (fun h' e' => ?_)
    subst e'
    refine G_aload_n (i := 0) dX0_ask_76 rfl rfl ?_
    refine G_aload_n (i := 1) dX0_ask_77 rfl rfl ?_
    refine G_iload dX0_ask_78 rfl ?_
    refine G_getsK (by decide +kernel) dX0_ask_80 ?_
    refine G_iload dX0_ask_83 rfl ?_
    refine G_ialdKv (v := 0) dX0_ask_85 (by decide) rfl ?_
    refine G_iload dX0_ask_86 rfl ?_
    refine G_iload dX0_ask_88 rfl ?_
    refine G_iconst dX0_ask_90 ?_
    refine G_iadd dX0_ask_91 ?_
    refine G_cVi (as := [.inr (some o), .inl 50, .inl 0, .inl x, .inl (dep + 1)]) qX0_38 (x_run_4_50 d τ (x_logs h [50]) hT o hP ho (by rw [x_logs_o [50] (by omega)]; exact hk) x (dep + 1) (by first | omega | (simp only [x_logs_n, List.length_cons, List.length_nil]; omega)) (by omega)) rfl rfl (Nat.le_of_ble_eq_true rfl) (o2 hT) dX0_ask_92 (fun v' h' e' => ?_)
    obtain ⟨rfl, rfl⟩ := e'
    refine G_iretZ rfl dX0_ask_95 ?_
    exact ⟨by simp only [x_logs_o [50] (show o ≠ 2 ∧ o ≠ 3 by omega)], rfl⟩
  · refine G_iconst dX0_ask_56 ?_
    refine G_iretZ rfl dX0_ask_57 ?_
    exfalso; omega

theorem x_askAll (d : Nat) (τ : TT) (h : HT) (hT : TK τ) (o : Nat) (hP : ob_ τ o 5) (ho : 126 ≤ o) (k a x : Int) (hk : h o 1 = k) (rk : 0 ≤ k ∧ k ≤ 4) (ra : 0 ≤ a ∧ a ≤ 2) (hra : 0 ≤ h 2 1 ∧ h 2 1 ≤ 100) : S_ mX0_ask (d + 11) 0 0 [.inr (some 2), .inr (some o), .inl k, .inl a, .inl x, .inl 0] τ h (Zi τ fun v h' => v = (if a = 0 then gV k (h o 2) x else if a = 1 then lV k (h o 2) (h o 3) x else sV k (h o 2) (h o 3) (h o 0) x) ∧ h' = x_logs h (if a = 0 then gL k else if a = 1 then lL k else sL k)) := by
  have hk5 : k = 0 ∨ k = 1 ∨ k = 2 ∨ k = 3 ∨ k = 4 := by omega
  have ha3 : a = 0 ∨ a = 1 ∨ a = 2 := by omega
  rcases hk5 with rfl | rfl | rfl | rfl | rfl <;> rcases ha3 with rfl | rfl | rfl
  · exact x_ask_0_0_0 (d + 10) τ h hT o hP ho hk x 0 (by omega) (by omega)
  · exact x_ask_0_0_1 (d + 8) τ h hT o hP ho hk x 0 (by omega) (by omega)
  · exact x_ask_0_0_2 (d + 6) τ h hT o hP ho hk x 0 (by omega) (by omega)
  · exact x_ask_1_1_0 (d + 8) τ h hT o hP ho hk x 0 (by omega) (by omega)
  · exact x_ask_1_1_1 (d + 6) τ h hT o hP ho hk x 0 (by omega) (by omega)
  · exact x_ask_1_1_2 (d + 4) τ h hT o hP ho hk x 0 (by omega) (by omega)
  · exact x_ask_2_2_0 (d + 10) τ h hT o hP ho hk x 0 (by omega) (by omega)
  · exact x_ask_2_2_1 (d + 6) τ h hT o hP ho hk x 0 (by omega) (by omega)
  · exact x_ask_2_2_2 (d + 4) τ h hT o hP ho hk x 0 (by omega) (by omega)
  · exact x_ask_3_3_0 (d + 8) τ h hT o hP ho hk x 0 (by omega) (by omega)
  · exact x_ask_3_3_1 (d + 2) τ h hT o hP ho hk x 0 (by omega) (by omega)
  · exact x_ask_3_3_2 d τ h hT o hP ho hk x 0 (by omega) (by omega)
  · exact x_ask_4_4_0 (d + 10) τ h hT o hP ho hk x 0 (by omega) (by omega)
  · exact x_ask_4_4_1 (d + 8) τ h hT o hP ho hk x 0 (by omega) (by omega)
  · exact x_ask_4_4_2 (d + 4) τ h hT o hP ho hk x 0 (by omega) (by omega)
theorem x_performAll (d : Nat) (τ : TT) (h : HT) (hT : TK τ) (o : Nat) (hP : ob_ τ o 5) (ho : 126 ≤ o) (k a x : Int) (hk : h o 1 = k) (rk : 0 ≤ k ∧ k ≤ 4) (ra : 0 ≤ a ∧ a ≤ 2) (hra : 0 ≤ h 2 1 ∧ h 2 1 ≤ 100) : S_ mX0_perform (d + 12) 0 0 [.inr (some 2), .inr (some o), .inl a, .inl x] τ h (Zi τ fun v h' => v = (if a = 0 then gV k (h o 2) x else if a = 1 then lV k (h o 2) (h o 3) x else sV k (h o 2) (h o 3) (h o 0) x) ∧ h' = x_logs h (if a = 0 then gL k else if a = 1 then lL k else sL k)) := by
  refine S_go (k := 0) (ls := [some (.inr (some 2)), some (.inr (some o)), some (.inl a), some (.inl x)]) (by decide) rfl (Nat.le_of_ble_eq_true rfl) rfl ?_
  refine G_aload_n (i := 0) dX0_perform_0 rfl rfl ?_
  refine G_aload_n (i := 1) dX0_perform_1 rfl rfl ?_
  refine G_aload_n (i := 1) dX0_perform_2 rfl rfl ?_
  refine G_getI (v := k) fX0_19 rfl dX0_perform_3 hP (hk) ?_
  refine G_iload_n (i := 2) dX0_perform_6 rfl rfl ?_
  refine G_iload_n (i := 3) dX0_perform_7 rfl rfl ?_
  refine G_iconst dX0_perform_8 ?_
  refine G_cVi (as := [.inr (some o), .inl k, .inl a, .inl x, .inl 0]) qX0_24 (x_askAll d τ h hT o hP ho k a x hk rk ra hra) rfl rfl (Nat.le_of_ble_eq_true rfl) (o2 hT) dX0_perform_9 (fun v' h' e' => ?_)
  obtain ⟨e1, e2⟩ := e'
  refine G_iretZ rfl dX0_perform_12 ?_
  exact ⟨e1, e2⟩

theorem x_isOf_0 (d : Nat) (τ : TT) (h : HT) (o : Nat) (hP : ob_ τ o 5) (hk : h o 1 = 0) (q : Int) (rq : 0 ≤ q ∧ q ≤ 4) : S_ mX5_isOf d 0 0 [.inr (some o), .inl q] τ h (Zi τ fun v h' => v = (if q = 0 ∨ 0 = q ∨ (q = 2 ∧ (0 : Int) = 3) then 1 else 0) ∧ h' = h) := by
  refine S_go (k := 2) (ls := [some (.inr (some o)), some (.inl q), none, none]) (by decide) rfl (Nat.le_of_ble_eq_true rfl) rfl ?_
  refine G_aload_n (i := 0) dX5_isOf_0 rfl rfl ?_
  refine G_getI (v := 0) fX5_15 rfl dX5_isOf_1 hP (hk) ?_
  refine G_istore_n (i := 2) (ls' := [some (.inr (some o)), some (.inl q), some (.inl 0), none]) dX5_isOf_4 rfl (by decide) rfl ?_
  refine G_iconst dX5_isOf_5 ?_
  refine G_istore_n (i := 3) (ls' := [some (.inr (some o)), some (.inl q), some (.inl 0), some (.inl 0)]) dX5_isOf_6 rfl (by decide) rfl ?_
  refine G_iload_n (i := 3) dX5_isOf_7 rfl rfl ?_
  refine G_iconst dX5_isOf_8 ?_
  refine G_icmp_ge (tgt := 33) dX5_isOf_9 (by decide) (by decide) (by decide) (fun q => absurd q (by decide)) (fun _ => ?_)
  refine G_iload_n (i := 2) dX5_isOf_12 rfl rfl ?_
  refine G_if_le (tgt := 33) dX5_isOf_13 (by decide) (by decide) (fun _ => ?_) (fun q => absurd q (by decide))
  refine G_iload_n (i := 2) dX5_isOf_33 rfl rfl ?_
  refine G_iload_n (i := 1) dX5_isOf_34 rfl rfl ?_
  refine G_icmp_ne (tgt := 42) dX5_isOf_35 (by decide) (by decide) (by omega) (fun c_1 => ?_) (fun c_1 => ?_)
  · refine G_iconst dX5_isOf_42 ?_
    refine G_zretZ rfl (by decide) dX5_isOf_43 ?_
    exact ⟨by first | rw [if_pos (by omega)] | rw [if_neg (by omega)], rfl⟩
  · refine G_iconst dX5_isOf_38 ?_
    refine G_goto (tgt := 43) dX5_isOf_39 (by decide) ?_
    refine G_zretZ rfl (by decide) dX5_isOf_43 ?_
    exact ⟨by first | rw [if_pos (by omega)] | rw [if_neg (by omega)], rfl⟩

theorem x_isOf_1 (d : Nat) (τ : TT) (h : HT) (o : Nat) (hP : ob_ τ o 5) (hk : h o 1 = 1) (q : Int) (rq : 0 ≤ q ∧ q ≤ 4) : S_ mX5_isOf d 0 0 [.inr (some o), .inl q] τ h (Zi τ fun v h' => v = (if q = 0 ∨ 1 = q ∨ (q = 2 ∧ (1 : Int) = 3) then 1 else 0) ∧ h' = h) := by
  refine S_go (k := 2) (ls := [some (.inr (some o)), some (.inl q), none, none]) (by decide) rfl (Nat.le_of_ble_eq_true rfl) rfl ?_
  refine G_aload_n (i := 0) dX5_isOf_0 rfl rfl ?_
  refine G_getI (v := 1) fX5_15 rfl dX5_isOf_1 hP (hk) ?_
  refine G_istore_n (i := 2) (ls' := [some (.inr (some o)), some (.inl q), some (.inl 1), none]) dX5_isOf_4 rfl (by decide) rfl ?_
  refine G_iconst dX5_isOf_5 ?_
  refine G_istore_n (i := 3) (ls' := [some (.inr (some o)), some (.inl q), some (.inl 1), some (.inl 0)]) dX5_isOf_6 rfl (by decide) rfl ?_
  refine G_iload_n (i := 3) dX5_isOf_7 rfl rfl ?_
  refine G_iconst dX5_isOf_8 ?_
  refine G_icmp_ge (tgt := 33) dX5_isOf_9 (by decide) (by decide) (by decide) (fun q => absurd q (by decide)) (fun _ => ?_)
  refine G_iload_n (i := 2) dX5_isOf_12 rfl rfl ?_
  refine G_if_le (tgt := 33) dX5_isOf_13 (by decide) (by decide) (fun q => absurd q (by decide)) (fun _ => ?_)
  refine G_iload_n (i := 2) dX5_isOf_16 rfl rfl ?_
  refine G_iload_n (i := 1) dX5_isOf_17 rfl rfl ?_
  refine G_icmp_eq (tgt := 33) dX5_isOf_18 (by decide) (by decide) (by omega) (fun c_1 => ?_) (fun c_1 => ?_)
  · refine G_iload_n (i := 2) dX5_isOf_33 rfl rfl ?_
    refine G_iload_n (i := 1) dX5_isOf_34 rfl rfl ?_
    refine G_icmp_ne (tgt := 42) dX5_isOf_35 (by decide) (by decide) (by omega) (fun q => absurd c_1 q) (fun _ => ?_)
    refine G_iconst dX5_isOf_38 ?_
    refine G_goto (tgt := 43) dX5_isOf_39 (by decide) ?_
    refine G_zretZ rfl (by decide) dX5_isOf_43 ?_
    exact ⟨by first | rw [if_pos (by omega)] | rw [if_neg (by omega)], rfl⟩
  · refine G_getsK (by decide +kernel) dX5_isOf_21 ?_
    refine G_iload_n (i := 2) dX5_isOf_24 rfl rfl ?_
    refine G_ialdKv (v := 0) dX5_isOf_25 (by decide) rfl ?_
    refine G_istore_n (i := 2) (ls' := [some (.inr (some o)), some (.inl q), some (.inl 0), some (.inl 0)]) dX5_isOf_26 rfl (by decide) rfl ?_
    refine G_iinc (ls' := [some (.inr (some o)), some (.inl q), some (.inl 0), some (.inl (0 + 1))]) dX5_isOf_27 (by decide) rfl rfl ?_
    refine G_goto (tgt := 7) dX5_isOf_30 (by decide) ?_
    refine G_iload_n (i := 3) dX5_isOf_7 rfl rfl ?_
    refine G_iconst dX5_isOf_8 ?_
    refine G_icmp_ge (tgt := 33) dX5_isOf_9 (by decide) (by decide) (by decide) (fun q => absurd q (by decide)) (fun _ => ?_)
    refine G_iload_n (i := 2) dX5_isOf_12 rfl rfl ?_
    refine G_if_le (tgt := 33) dX5_isOf_13 (by decide) (by decide) (fun _ => ?_) (fun q => absurd q (by decide))
    refine G_iload_n (i := 2) dX5_isOf_33 rfl rfl ?_
    refine G_iload_n (i := 1) dX5_isOf_34 rfl rfl ?_
    refine G_icmp_ne (tgt := 42) dX5_isOf_35 (by decide) (by decide) (by omega) (fun c_2 => ?_) (fun c_2 => ?_)
    · refine G_iconst dX5_isOf_42 ?_
      refine G_zretZ rfl (by decide) dX5_isOf_43 ?_
      exact ⟨by first | rw [if_pos (by omega)] | rw [if_neg (by omega)], rfl⟩
    · refine G_iconst dX5_isOf_38 ?_
      refine G_goto (tgt := 43) dX5_isOf_39 (by decide) ?_
      refine G_zretZ rfl (by decide) dX5_isOf_43 ?_
      exact ⟨by first | rw [if_pos (by omega)] | rw [if_neg (by omega)], rfl⟩

theorem x_isOf_2 (d : Nat) (τ : TT) (h : HT) (o : Nat) (hP : ob_ τ o 5) (hk : h o 1 = 2) (q : Int) (rq : 0 ≤ q ∧ q ≤ 4) : S_ mX5_isOf d 0 0 [.inr (some o), .inl q] τ h (Zi τ fun v h' => v = (if q = 0 ∨ 2 = q ∨ (q = 2 ∧ (2 : Int) = 3) then 1 else 0) ∧ h' = h) := by
  refine S_go (k := 2) (ls := [some (.inr (some o)), some (.inl q), none, none]) (by decide) rfl (Nat.le_of_ble_eq_true rfl) rfl ?_
  refine G_aload_n (i := 0) dX5_isOf_0 rfl rfl ?_
  refine G_getI (v := 2) fX5_15 rfl dX5_isOf_1 hP (hk) ?_
  refine G_istore_n (i := 2) (ls' := [some (.inr (some o)), some (.inl q), some (.inl 2), none]) dX5_isOf_4 rfl (by decide) rfl ?_
  refine G_iconst dX5_isOf_5 ?_
  refine G_istore_n (i := 3) (ls' := [some (.inr (some o)), some (.inl q), some (.inl 2), some (.inl 0)]) dX5_isOf_6 rfl (by decide) rfl ?_
  refine G_iload_n (i := 3) dX5_isOf_7 rfl rfl ?_
  refine G_iconst dX5_isOf_8 ?_
  refine G_icmp_ge (tgt := 33) dX5_isOf_9 (by decide) (by decide) (by decide) (fun q => absurd q (by decide)) (fun _ => ?_)
  refine G_iload_n (i := 2) dX5_isOf_12 rfl rfl ?_
  refine G_if_le (tgt := 33) dX5_isOf_13 (by decide) (by decide) (fun q => absurd q (by decide)) (fun _ => ?_)
  refine G_iload_n (i := 2) dX5_isOf_16 rfl rfl ?_
  refine G_iload_n (i := 1) dX5_isOf_17 rfl rfl ?_
  refine G_icmp_eq (tgt := 33) dX5_isOf_18 (by decide) (by decide) (by omega) (fun c_1 => ?_) (fun c_1 => ?_)
  · refine G_iload_n (i := 2) dX5_isOf_33 rfl rfl ?_
    refine G_iload_n (i := 1) dX5_isOf_34 rfl rfl ?_
    refine G_icmp_ne (tgt := 42) dX5_isOf_35 (by decide) (by decide) (by omega) (fun q => absurd c_1 q) (fun _ => ?_)
    refine G_iconst dX5_isOf_38 ?_
    refine G_goto (tgt := 43) dX5_isOf_39 (by decide) ?_
    refine G_zretZ rfl (by decide) dX5_isOf_43 ?_
    exact ⟨by first | rw [if_pos (by omega)] | rw [if_neg (by omega)], rfl⟩
  · refine G_getsK (by decide +kernel) dX5_isOf_21 ?_
    refine G_iload_n (i := 2) dX5_isOf_24 rfl rfl ?_
    refine G_ialdKv (v := 0) dX5_isOf_25 (by decide) rfl ?_
    refine G_istore_n (i := 2) (ls' := [some (.inr (some o)), some (.inl q), some (.inl 0), some (.inl 0)]) dX5_isOf_26 rfl (by decide) rfl ?_
    refine G_iinc (ls' := [some (.inr (some o)), some (.inl q), some (.inl 0), some (.inl (0 + 1))]) dX5_isOf_27 (by decide) rfl rfl ?_
    refine G_goto (tgt := 7) dX5_isOf_30 (by decide) ?_
    refine G_iload_n (i := 3) dX5_isOf_7 rfl rfl ?_
    refine G_iconst dX5_isOf_8 ?_
    refine G_icmp_ge (tgt := 33) dX5_isOf_9 (by decide) (by decide) (by decide) (fun q => absurd q (by decide)) (fun _ => ?_)
    refine G_iload_n (i := 2) dX5_isOf_12 rfl rfl ?_
    refine G_if_le (tgt := 33) dX5_isOf_13 (by decide) (by decide) (fun _ => ?_) (fun q => absurd q (by decide))
    refine G_iload_n (i := 2) dX5_isOf_33 rfl rfl ?_
    refine G_iload_n (i := 1) dX5_isOf_34 rfl rfl ?_
    refine G_icmp_ne (tgt := 42) dX5_isOf_35 (by decide) (by decide) (by omega) (fun c_2 => ?_) (fun c_2 => ?_)
    · refine G_iconst dX5_isOf_42 ?_
      refine G_zretZ rfl (by decide) dX5_isOf_43 ?_
      exact ⟨by first | rw [if_pos (by omega)] | rw [if_neg (by omega)], rfl⟩
    · refine G_iconst dX5_isOf_38 ?_
      refine G_goto (tgt := 43) dX5_isOf_39 (by decide) ?_
      refine G_zretZ rfl (by decide) dX5_isOf_43 ?_
      exact ⟨by first | rw [if_pos (by omega)] | rw [if_neg (by omega)], rfl⟩

theorem x_isOf_3 (d : Nat) (τ : TT) (h : HT) (o : Nat) (hP : ob_ τ o 5) (hk : h o 1 = 3) (q : Int) (rq : 0 ≤ q ∧ q ≤ 4) : S_ mX5_isOf d 0 0 [.inr (some o), .inl q] τ h (Zi τ fun v h' => v = (if q = 0 ∨ 3 = q ∨ (q = 2 ∧ (3 : Int) = 3) then 1 else 0) ∧ h' = h) := by
  refine S_go (k := 2) (ls := [some (.inr (some o)), some (.inl q), none, none]) (by decide) rfl (Nat.le_of_ble_eq_true rfl) rfl ?_
  refine G_aload_n (i := 0) dX5_isOf_0 rfl rfl ?_
  refine G_getI (v := 3) fX5_15 rfl dX5_isOf_1 hP (hk) ?_
  refine G_istore_n (i := 2) (ls' := [some (.inr (some o)), some (.inl q), some (.inl 3), none]) dX5_isOf_4 rfl (by decide) rfl ?_
  refine G_iconst dX5_isOf_5 ?_
  refine G_istore_n (i := 3) (ls' := [some (.inr (some o)), some (.inl q), some (.inl 3), some (.inl 0)]) dX5_isOf_6 rfl (by decide) rfl ?_
  refine G_iload_n (i := 3) dX5_isOf_7 rfl rfl ?_
  refine G_iconst dX5_isOf_8 ?_
  refine G_icmp_ge (tgt := 33) dX5_isOf_9 (by decide) (by decide) (by decide) (fun q => absurd q (by decide)) (fun _ => ?_)
  refine G_iload_n (i := 2) dX5_isOf_12 rfl rfl ?_
  refine G_if_le (tgt := 33) dX5_isOf_13 (by decide) (by decide) (fun q => absurd q (by decide)) (fun _ => ?_)
  refine G_iload_n (i := 2) dX5_isOf_16 rfl rfl ?_
  refine G_iload_n (i := 1) dX5_isOf_17 rfl rfl ?_
  refine G_icmp_eq (tgt := 33) dX5_isOf_18 (by decide) (by decide) (by omega) (fun c_1 => ?_) (fun c_1 => ?_)
  · refine G_iload_n (i := 2) dX5_isOf_33 rfl rfl ?_
    refine G_iload_n (i := 1) dX5_isOf_34 rfl rfl ?_
    refine G_icmp_ne (tgt := 42) dX5_isOf_35 (by decide) (by decide) (by omega) (fun q => absurd c_1 q) (fun _ => ?_)
    refine G_iconst dX5_isOf_38 ?_
    refine G_goto (tgt := 43) dX5_isOf_39 (by decide) ?_
    refine G_zretZ rfl (by decide) dX5_isOf_43 ?_
    exact ⟨by first | rw [if_pos (by omega)] | rw [if_neg (by omega)], rfl⟩
  · refine G_getsK (by decide +kernel) dX5_isOf_21 ?_
    refine G_iload_n (i := 2) dX5_isOf_24 rfl rfl ?_
    refine G_ialdKv (v := 2) dX5_isOf_25 (by decide) rfl ?_
    refine G_istore_n (i := 2) (ls' := [some (.inr (some o)), some (.inl q), some (.inl 2), some (.inl 0)]) dX5_isOf_26 rfl (by decide) rfl ?_
    refine G_iinc (ls' := [some (.inr (some o)), some (.inl q), some (.inl 2), some (.inl (0 + 1))]) dX5_isOf_27 (by decide) rfl rfl ?_
    refine G_goto (tgt := 7) dX5_isOf_30 (by decide) ?_
    refine G_iload_n (i := 3) dX5_isOf_7 rfl rfl ?_
    refine G_iconst dX5_isOf_8 ?_
    refine G_icmp_ge (tgt := 33) dX5_isOf_9 (by decide) (by decide) (by decide) (fun q => absurd q (by decide)) (fun _ => ?_)
    refine G_iload_n (i := 2) dX5_isOf_12 rfl rfl ?_
    refine G_if_le (tgt := 33) dX5_isOf_13 (by decide) (by decide) (fun q => absurd q (by decide)) (fun _ => ?_)
    refine G_iload_n (i := 2) dX5_isOf_16 rfl rfl ?_
    refine G_iload_n (i := 1) dX5_isOf_17 rfl rfl ?_
    refine G_icmp_eq (tgt := 33) dX5_isOf_18 (by decide) (by decide) (by omega) (fun c_2 => ?_) (fun c_2 => ?_)
    · refine G_iload_n (i := 2) dX5_isOf_33 rfl rfl ?_
      refine G_iload_n (i := 1) dX5_isOf_34 rfl rfl ?_
      refine G_icmp_ne (tgt := 42) dX5_isOf_35 (by decide) (by decide) (by omega) (fun q => absurd c_2 q) (fun _ => ?_)
      refine G_iconst dX5_isOf_38 ?_
      refine G_goto (tgt := 43) dX5_isOf_39 (by decide) ?_
      refine G_zretZ rfl (by decide) dX5_isOf_43 ?_
      exact ⟨by first | rw [if_pos (by omega)] | rw [if_neg (by omega)], rfl⟩
    · refine G_getsK (by decide +kernel) dX5_isOf_21 ?_
      refine G_iload_n (i := 2) dX5_isOf_24 rfl rfl ?_
      refine G_ialdKv (v := 0) dX5_isOf_25 (by decide) rfl ?_
      refine G_istore_n (i := 2) (ls' := [some (.inr (some o)), some (.inl q), some (.inl 0), some (.inl (0 + 1))]) dX5_isOf_26 rfl (by decide) rfl ?_
      refine G_iinc (ls' := [some (.inr (some o)), some (.inl q), some (.inl 0), some (.inl ((0 + 1) + 1))]) dX5_isOf_27 (by decide) rfl rfl ?_
      refine G_goto (tgt := 7) dX5_isOf_30 (by decide) ?_
      refine G_iload_n (i := 3) dX5_isOf_7 rfl rfl ?_
      refine G_iconst dX5_isOf_8 ?_
      refine G_icmp_ge (tgt := 33) dX5_isOf_9 (by decide) (by decide) (by decide) (fun q => absurd q (by decide)) (fun _ => ?_)
      refine G_iload_n (i := 2) dX5_isOf_12 rfl rfl ?_
      refine G_if_le (tgt := 33) dX5_isOf_13 (by decide) (by decide) (fun _ => ?_) (fun q => absurd q (by decide))
      refine G_iload_n (i := 2) dX5_isOf_33 rfl rfl ?_
      refine G_iload_n (i := 1) dX5_isOf_34 rfl rfl ?_
      refine G_icmp_ne (tgt := 42) dX5_isOf_35 (by decide) (by decide) (by omega) (fun c_3 => ?_) (fun c_3 => ?_)
      · refine G_iconst dX5_isOf_42 ?_
        refine G_zretZ rfl (by decide) dX5_isOf_43 ?_
        exact ⟨by first | rw [if_pos (by omega)] | rw [if_neg (by omega)], rfl⟩
      · refine G_iconst dX5_isOf_38 ?_
        refine G_goto (tgt := 43) dX5_isOf_39 (by decide) ?_
        refine G_zretZ rfl (by decide) dX5_isOf_43 ?_
        exact ⟨by first | rw [if_pos (by omega)] | rw [if_neg (by omega)], rfl⟩

theorem x_isOf_4 (d : Nat) (τ : TT) (h : HT) (o : Nat) (hP : ob_ τ o 5) (hk : h o 1 = 4) (q : Int) (rq : 0 ≤ q ∧ q ≤ 4) : S_ mX5_isOf d 0 0 [.inr (some o), .inl q] τ h (Zi τ fun v h' => v = (if q = 0 ∨ 4 = q ∨ (q = 2 ∧ (4 : Int) = 3) then 1 else 0) ∧ h' = h) := by
  refine S_go (k := 2) (ls := [some (.inr (some o)), some (.inl q), none, none]) (by decide) rfl (Nat.le_of_ble_eq_true rfl) rfl ?_
  refine G_aload_n (i := 0) dX5_isOf_0 rfl rfl ?_
  refine G_getI (v := 4) fX5_15 rfl dX5_isOf_1 hP (hk) ?_
  refine G_istore_n (i := 2) (ls' := [some (.inr (some o)), some (.inl q), some (.inl 4), none]) dX5_isOf_4 rfl (by decide) rfl ?_
  refine G_iconst dX5_isOf_5 ?_
  refine G_istore_n (i := 3) (ls' := [some (.inr (some o)), some (.inl q), some (.inl 4), some (.inl 0)]) dX5_isOf_6 rfl (by decide) rfl ?_
  refine G_iload_n (i := 3) dX5_isOf_7 rfl rfl ?_
  refine G_iconst dX5_isOf_8 ?_
  refine G_icmp_ge (tgt := 33) dX5_isOf_9 (by decide) (by decide) (by decide) (fun q => absurd q (by decide)) (fun _ => ?_)
  refine G_iload_n (i := 2) dX5_isOf_12 rfl rfl ?_
  refine G_if_le (tgt := 33) dX5_isOf_13 (by decide) (by decide) (fun q => absurd q (by decide)) (fun _ => ?_)
  refine G_iload_n (i := 2) dX5_isOf_16 rfl rfl ?_
  refine G_iload_n (i := 1) dX5_isOf_17 rfl rfl ?_
  refine G_icmp_eq (tgt := 33) dX5_isOf_18 (by decide) (by decide) (by omega) (fun c_1 => ?_) (fun c_1 => ?_)
  · refine G_iload_n (i := 2) dX5_isOf_33 rfl rfl ?_
    refine G_iload_n (i := 1) dX5_isOf_34 rfl rfl ?_
    refine G_icmp_ne (tgt := 42) dX5_isOf_35 (by decide) (by decide) (by omega) (fun q => absurd c_1 q) (fun _ => ?_)
    refine G_iconst dX5_isOf_38 ?_
    refine G_goto (tgt := 43) dX5_isOf_39 (by decide) ?_
    refine G_zretZ rfl (by decide) dX5_isOf_43 ?_
    exact ⟨by first | rw [if_pos (by omega)] | rw [if_neg (by omega)], rfl⟩
  · refine G_getsK (by decide +kernel) dX5_isOf_21 ?_
    refine G_iload_n (i := 2) dX5_isOf_24 rfl rfl ?_
    refine G_ialdKv (v := 0) dX5_isOf_25 (by decide) rfl ?_
    refine G_istore_n (i := 2) (ls' := [some (.inr (some o)), some (.inl q), some (.inl 0), some (.inl 0)]) dX5_isOf_26 rfl (by decide) rfl ?_
    refine G_iinc (ls' := [some (.inr (some o)), some (.inl q), some (.inl 0), some (.inl (0 + 1))]) dX5_isOf_27 (by decide) rfl rfl ?_
    refine G_goto (tgt := 7) dX5_isOf_30 (by decide) ?_
    refine G_iload_n (i := 3) dX5_isOf_7 rfl rfl ?_
    refine G_iconst dX5_isOf_8 ?_
    refine G_icmp_ge (tgt := 33) dX5_isOf_9 (by decide) (by decide) (by decide) (fun q => absurd q (by decide)) (fun _ => ?_)
    refine G_iload_n (i := 2) dX5_isOf_12 rfl rfl ?_
    refine G_if_le (tgt := 33) dX5_isOf_13 (by decide) (by decide) (fun _ => ?_) (fun q => absurd q (by decide))
    refine G_iload_n (i := 2) dX5_isOf_33 rfl rfl ?_
    refine G_iload_n (i := 1) dX5_isOf_34 rfl rfl ?_
    refine G_icmp_ne (tgt := 42) dX5_isOf_35 (by decide) (by decide) (by omega) (fun c_2 => ?_) (fun c_2 => ?_)
    · refine G_iconst dX5_isOf_42 ?_
      refine G_zretZ rfl (by decide) dX5_isOf_43 ?_
      exact ⟨by first | rw [if_pos (by omega)] | rw [if_neg (by omega)], rfl⟩
    · refine G_iconst dX5_isOf_38 ?_
      refine G_goto (tgt := 43) dX5_isOf_39 (by decide) ?_
      refine G_zretZ rfl (by decide) dX5_isOf_43 ?_
      exact ⟨by first | rw [if_pos (by omega)] | rw [if_neg (by omega)], rfl⟩

theorem x_isOf (d : Nat) (τ : TT) (h : HT) (o : Nat) (hP : ob_ τ o 5) (k q : Int) (hk : h o 1 = k) (rk : 0 ≤ k ∧ k ≤ 4) (rq : 0 ≤ q ∧ q ≤ 4) : S_ mX5_isOf d 0 0 [.inr (some o), .inl q] τ h (Zi τ fun v h' => v = (if q = 0 ∨ k = q ∨ (q = 2 ∧ k = 3) then 1 else 0) ∧ h' = h) := by
  have hk5 : k = 0 ∨ k = 1 ∨ k = 2 ∨ k = 3 ∨ k = 4 := by omega
  rcases hk5 with rfl | rfl | rfl | rfl | rfl
  · exact x_isOf_0 d τ h o hP hk q rq
  · exact x_isOf_1 d τ h o hP hk q rq
  · exact x_isOf_2 d τ h o hP hk q rq
  · exact x_isOf_3 d τ h o hP hk q rq
  · exact x_isOf_4 d τ h o hP hk q rq
