/-! operations: figure -/
theorem o_ad_pos {o : OT} {s : Int} : 0 < (o_ad o s).1.length := by
  unfold o_ad; split
  · show 0 < o.1.length; omega
  · simp
theorem o_ads_pos {l : List Int} {o : OT} (h : o.1.length ≤ 300) (hl : l ≠ []) : 0 < (o_ads o l).1.length := by
  cases l with
  | nil => exact absurd rfl hl
  | cons s t =>
    have h1 := o_ad_pos (o := o) (s := s)
    have h2 := o_ads_len t (o_ad_len (s := s) h).1
    show 0 < (o_ads (o_ad o s) t).1.length
    omega
theorem o_und_l2 (L : List Int) (a : Nat) : (o_und L a).length = L.length := by
  simp [o_und]; omega
theorem p_good {tx : Nat → Int} {len : Nat} {fig : Nat → List Int} {nf : Nat} (hf : ∀ f : Nat, f < nf → fig f ≠ [] ∧ ∀ s ∈ fig f, f_okc s) : ∀ (n i : Nat) (stk : List Nat) (ah : Bool) (o : OT), OKo o → o.1.length ≤ 300 → (ah = true → 0 < o.1.length) → (-1 ≤ (p_run tx len fig nf n i stk ah o).1 ∧ (p_run tx len fig nf n i stk ah o).1 ≤ len) ∧ ((p_run tx len fig nf n i stk ah o).1 = -1 → OKo (p_run tx len fig nf n i stk ah o).2 ∧ 0 < (p_run tx len fig nf n i stk ah o).2.1.length)
  | 0, _, _, _, o, _, _, _ => ⟨⟨show (-1 : Int) ≤ 0 by decide, show (0 : Int) ≤ len by omega⟩, fun q => absurd (show (0 : Int) = -1 from q) (by decide)⟩
  | n + 1, i, stk, ah, o, ok, hl, ha => by
    have ih := fun i stk ah o => p_good hf n i stk ah o (tx := tx) (len := len)
    have fin : ∀ k : Nat, k ≤ len → (-1 ≤ (((k : Int), o) : Int × OT).1 ∧ (((k : Int), o) : Int × OT).1 ≤ len) ∧ ((((k : Int), o) : Int × OT).1 = -1 → OKo (((k : Int), o) : Int × OT).2 ∧ 0 < (((k : Int), o) : Int × OT).2.1.length) := fun k hk => ⟨⟨show (-1 : Int) ≤ (k : Int) by omega, show (k : Int) ≤ len by omega⟩, fun q => absurd (show (k : Int) = -1 from q) (by omega)⟩
    unfold p_run
    split
    · split
      · rename_i z; exact ⟨⟨Int.le_refl _, show (-1 : Int) ≤ len by omega⟩, fun _ => ⟨ok, ha z.2⟩⟩
      · exact fin len (Nat.le_refl _)
    split
    · rename_i z
      split
      · exact ih _ _ _ _ (ok.ad (Or.inl ⟨by omega, by omega, by rw [Int.tmod_eq_emod_of_nonneg (by omega)]; omega⟩)) (o_ad_len hl).1 (fun _ => o_ad_pos)
      split
      · exact ih _ _ _ _ (ok.ad (Or.inl ⟨by omega, by omega, by rw [Int.tmod_eq_emod_of_nonneg (by omega)]; omega⟩)) (o_ad_len hl).1 (fun _ => o_ad_pos)
      · exact fin (i + 1) (by omega)
    split
    · exact ih _ _ _ _ (ok.ad (Or.inr (Or.inl rfl))) (o_ad_len hl).1 (fun _ => o_ad_pos)
    split
    · exact ih _ _ _ _ (ok.ad (Or.inr (Or.inr rfl))) (o_ad_len hl).1 (fun _ => o_ad_pos)
    split
    · rename_i z
      have hz := hf (tx i - 65).toNat (by omega)
      exact ih _ _ _ _ (ok.ads _ hz.2) (o_ads_len _ hl).1 (fun _ => o_ads_pos hl hz.1)
    split
    · exact ih _ _ _ _ ok hl (fun q => by cases q)
    split
    · rename_i z
      have a0 := ha z.2.2
      split
      · have rl := o_rep_len (o.1.drop (stk.headD 0)) (tx (i + 1) - 49).toNat hl
        exact ih _ _ _ _ (OKo.rep _ (fun s hs => ok s (List.mem_of_mem_drop hs)) _ ok) rl.1 (fun _ => by omega)
      split
      · exact ih _ _ _ _ ok.und (by rw [o_und_l2]; exact hl) (fun _ => by rw [o_und_l2]; exact a0)
      · exact fin (i + 1) (by omega)
    · exact fin i (by omega)
theorem x_SInit (d : Nat) (τ : TT) (h : HT) (o : Nat) (N : Nat) (hN : N ≤ 300) (ht : τ.1 < 800000 ∧ 64 < τ.1) (ho : ob_ τ o 9) : S_ mX9_init (d + 1) 1 N [.inr (some o), .inl (N : Int)] τ h (fun r τ1 h1 => r = none ∧ τ1 = tr_ (tn_ τ 13 N) o 0 (some τ.1) ∧ h1 = hn_ τ (hs_ h o 1 0)) := by
  refine S_go (k := 0) (ls := [some (.inr (some o)), some (.inl (N : Int))]) (by decide) rfl (Nat.le_of_ble_eq_true rfl) rfl ?_
  refine G_aload_n (i := 0) dX9_init_0 rfl rfl ?_
  refine G_obj qX9_3 (Nat.le_of_ble_eq_true rfl) dX9_init_1 ?_
  refine G_aload_n (i := 0) dX9_init_4 rfl rfl ?_
  refine G_iconst dX9_init_5 ?_
  refine G_putI fX9_9 dX9_init_6 ho ?_
  refine G_aload_n (i := 0) dX9_init_9 rfl rfl ?_
  refine G_iload_n (i := 1) dX9_init_10 rfl rfl ?_
  refine G_newaI (bc := 0) (bs := 0) (n := (N : Int)) rfl acI (by omega) (by omega) dX9_init_11 ?_
  refine G_putFR fX9_15 ⟨rfl, rfl⟩ rfl dX9_init_13 (ob_n ho) ?_
  exact G_vret rfl dX9_init_16 ⟨rfl, rfl, rfl⟩
def tSt (τ : TT) (N : Nat) : TT := tr_ (tn_ (tn_ τ 9 0) 13 N) τ.1 0 (some (τ.1 + 1))
def hSt (τ : TT) (h : HT) (b N : Nat) : HT := hs_ (hf_ (hn_ (tn_ τ 9 0) (hs_ (hn_ τ h) τ.1 1 0)) (τ.1 + 1) 0 N (h b)) τ.1 1 (N : Int)
theorem ST_new {τ : TT} {N : Nat} (hN : N ≤ 300) : ST (tSt τ N) τ.1 N := by
  refine ⟨ob_r (ob_n ob_n0), ?_, ?_⟩
  · exact ar_n0 (τ := tn_ τ 9 0) (k := 13) (len := N) (by omega)
  · show (if τ.1 = τ.1 ∧ 0 = 0 then some (τ.1 + 1) else _) = some (τ.1 + 1)
    rw [if_pos ⟨rfl, rfl⟩]
theorem TK_St {τ : TT} (hT : TK τ) (ht : τ.1 < 700000) (N : Nat) : TK (tSt τ N) := TK_r (TK_n (TK_n hT (by omega) 9 0) (show τ.1 + 1 < 800000 by omega) 13 N) (Or.inr (Or.inr hT.1)) 0 _
theorem x_copied (d : Nat) (τ : TT) (h : HT) (hT : TK τ) (N : Nat) (hN : N ≤ 300) (ht : τ.1 < 700000) (e : h 42 1 = (N : Int)) : S_ mX9_copied (d + 2) 2 (2 + N) [.inr (some 42)] τ h (fun r τ1 h1 => r = some (.inr (some τ.1)) ∧ τ1 = tSt τ N ∧ h1 = hSt τ h 43 N) := by
  have T0 := hT.1
  have hT1 := TK_n hT (by omega) 9 0
  have hT2 := TK_St hT ht N
  have s2 := ST_new (τ := τ) hN
  refine S_go (k := 1) (ls := [some (.inr (some 42)), none]) (by decide) rfl (Nat.le_of_ble_eq_true rfl) rfl ?_
  refine G_new (bc := 1) (bs := N) cl9 kX9_10 (by decide) (by omega) dX9_copied_0 ?_
  refine G_dup dX9_copied_3 ?_
  refine G_aload_n (i := 0) dX9_copied_4 rfl rfl ?_
  refine G_getI (v := (N : Int)) fX9_9 rfl dX9_copied_5 (o42 hT1) (by show (if 42 = τ.1 then 0 else h 42 1) = _; rw [if_neg (by omega)]; exact e) ?_
  refine G_callI (bc := 0) (bs := 0) (as := [.inl (N : Int)]) qX9_19 (x_SInit d (tn_ τ 9 0) (hn_ τ h) τ.1 N hN (show τ.1 + 1 < 800000 ∧ 64 < τ.1 + 1 by omega) ob_n0) rfl rfl (Nat.le_of_ble_eq_true rfl) dX9_copied_8 (fun r_ τ' h' e' => ?_)
  obtain ⟨rfl, rfl, rfl⟩ := e'
  refine G_astore_n (i := 1) (ls' := [some (.inr (some 42)), some (.inr (some τ.1))]) dX9_copied_11 rfl (by decide) rfl ?_
  refine G_aload_n (i := 0) dX9_copied_12 rfl rfl ?_
  refine G_getR fX9_15 rfl dX9_copied_13 (o42 hT2) (r42_0 hT2) ?_
  refine G_iconst dX9_copied_16 ?_
  refine G_aload_n (i := 1) dX9_copied_17 rfl rfl ?_
  refine G_getR fX9_15 rfl dX9_copied_18 s2.1 s2.2.2 ?_
  refine G_iconst dX9_copied_21 ?_
  refine G_aload_n (i := 0) dX9_copied_22 rfl rfl ?_
  have e2 : hn_ (tn_ τ 9 0) (hs_ (hn_ τ h) τ.1 1 0) 42 1 = (N : Int) := by
    show (if 42 = τ.1 + 1 then 0 else if 42 = τ.1 ∧ 1 = 1 then 0 else if 42 = τ.1 then 0 else h 42 1) = _
    rw [if_neg (by omega), if_neg (by omega), if_neg (by omega)]; exact e
  refine G_getI (v := (N : Int)) fX9_9 rfl dX9_copied_23 (o42 hT2) e2 ?_
  refine G_copyk 0 0 N qX9_22 (Nat.le_of_ble_eq_true rfl) dX9_copied_26 (o43 hT2) s2.2.1 (by omega) (by omega) (by omega) (by omega) (by omega) rfl rfl rfl ?_
  rw [hc00k (f := h 43) (fun j => by
    show (if 43 = τ.1 + 1 then 0 else if 43 = τ.1 ∧ j = 1 then 0 else if 43 = τ.1 then 0 else h 43 j) = _
    rw [if_neg (by omega), if_neg (by omega), if_neg (by omega)])]
  refine G_aload_n (i := 1) dX9_copied_29 rfl rfl ?_
  refine G_aload_n (i := 0) dX9_copied_30 rfl rfl ?_
  refine G_getI (v := (N : Int)) fX9_9 rfl dX9_copied_31 (o42 hT2) (by rw [hf_na (by omega)]; exact e2) ?_
  refine G_putI fX9_9 dX9_copied_34 s2.1 ?_
  refine G_aload_n (i := 1) dX9_copied_37 rfl rfl ?_
  exact G_aret rfl dX9_copied_38 ⟨rfl, rfl, rfl⟩
def tKp (τ : TT) (h : HT) (N : Nat) : TT := tr_ (tSt τ N) 40 (h 39 1).toNat (some τ.1)
def hKp (τ : TT) (h : HT) (N : Nat) : HT := hs_ (hSt τ h 43 N) 39 1 (h 39 1 + 1)
theorem hSt_o {τ : TT} {h : HT} {b N a i : Nat} (h1 : a ≠ τ.1) (h2 : a ≠ τ.1 + 1) : hSt τ h b N a i = h a i := by
  unfold hSt
  rw [hs_na h1, hf_na h2]
  show (if a = τ.1 + 1 then 0 else if a = τ.1 ∧ i = 1 then 0 else if a = τ.1 then 0 else h a i) = _
  rw [if_neg h2, if_neg (fun q => h1 q.1), if_neg h1]
theorem x_keep (d : Nat) (τ : TT) (h : HT) (hT : TK τ) (N : Nat) (hN : N ≤ 300) (ht : τ.1 < 700000) (e : h 42 1 = (N : Int)) (hf : 0 ≤ h 39 1 ∧ h 39 1 < 10) : S_ mX7_keep (d + 3) 2 (2 + N) [.inr (some 39)] τ h (fun r τ1 h1 => r = some (.inl (h 39 1)) ∧ τ1 = tKp τ h N ∧ h1 = hKp τ h N) := by
  have T0 := hT.1
  have hT2 := TK_St hT ht N
  have hT3 := TK_r hT2 (a := 40) (Or.inr (Or.inl rfl)) (h 39 1).toNat (some τ.1)
  refine S_go (k := 1) (ls := [some (.inr (some 39)), none]) (by decide) rfl (Nat.le_of_ble_eq_true rfl) rfl ?_
  refine G_aload_n (i := 0) dX7_keep_0 rfl rfl ?_
  refine G_getI (v := h 39 1) fX7_17 rfl dX7_keep_1 (o39 hT) rfl ?_
  refine G_bipush dX7_keep_4 (by decide) ?_
  refine G_icmp_lt (tgt := 12) dX7_keep_6 (by decide) (by omega) (by decide) (fun _ => ?_) (fun q => absurd hf.2 q)
  refine G_aload_n (i := 0) dX7_keep_12 rfl rfl ?_
  refine G_getI (v := h 39 1) fX7_17 rfl dX7_keep_13 (o39 hT) rfl ?_
  refine G_istore_n (i := 1) (ls' := [some (.inr (some 39)), some (.inl (h 39 1))]) dX7_keep_16 rfl (by decide) rfl ?_
  refine G_aload_n (i := 0) dX7_keep_17 rfl rfl ?_
  refine G_getR fX7_11 rfl dX7_keep_18 (o39 hT) (r39_0 hT) ?_
  refine G_iload_n (i := 1) dX7_keep_21 rfl rfl ?_
  refine G_aload_n (i := 0) dX7_keep_22 rfl rfl ?_
  refine G_getR fX7_31 rfl dX7_keep_23 (o39 hT) (r39_4 hT) ?_
  refine G_callV (bc := 0) (bs := 0) (as := []) qX7_45 (x_copied d τ h hT N hN ht e) rfl rfl (Nat.le_of_ble_eq_true rfl) (o42 hT) dX7_keep_26 (fun r_ τ' h' e' => ?_)
  obtain ⟨rfl, rfl, rfl⟩ := e'
  refine G_aast (ci := 16) (co := 9) (Or.inr (Or.inl ⟨rfl, rfl⟩)) rfl dX7_keep_29 (o40 hT2) (ST_new hN).1 (by omega) ?_
  refine G_aload_n (i := 0) dX7_keep_30 rfl rfl ?_
  refine G_dup dX7_keep_31 ?_
  refine G_getI (v := h 39 1) fX7_17 rfl dX7_keep_32 (o39 hT3) (hSt_o (by omega) (by omega)) ?_
  refine G_iconst dX7_keep_35 ?_
  refine G_iadd dX7_keep_36 ?_
  refine G_putI fX7_17 dX7_keep_37 (o39 hT3) ?_
  refine G_iload_n (i := 1) dX7_keep_40 rfl rfl ?_
  exact G_iret rfl dX7_keep_41 ⟨rfl, rfl, rfl⟩
