/-! texts: what is read, as lists -/
/-- the steps read so far; whether there were too many -/
abbrev OT : Type := List Int × Bool
def o_ad (o : OT) (s : Int) : OT := if o.1.length = 300 then (o.1, true) else (o.1 ++ [s], o.2)
def o_ads (o : OT) : List Int → OT
  | [] => o
  | s :: t => o_ads (o_ad o s) t
def o_rep (g : List Int) : Nat → OT → OT
  | 0, o => o
  | n + 1, o => if o.2 = true then o else o_rep g n (o_ads o g)
def o_un (s : Int) : Int := if 100 ≤ s then 201 - s else b_xor s 1
def o_und (L : List Int) (a : Nat) : List Int := L.take a ++ ((L.drop a).reverse.map o_un)
theorem o_ad_len {o : OT} {s : Int} (h : o.1.length ≤ 300) : (o_ad o s).1.length ≤ 300 ∧ o.1.length ≤ (o_ad o s).1.length := by
  unfold o_ad; split
  · exact ⟨h, Nat.le_refl _⟩
  · simp; omega
theorem o_ads_len (l : List Int) : ∀ {o : OT}, o.1.length ≤ 300 → (o_ads o l).1.length ≤ 300 ∧ o.1.length ≤ (o_ads o l).1.length := by
  induction l with
  | nil => intro o h; exact ⟨h, Nat.le_refl _⟩
  | cons s t ih => intro o h; have h1 := o_ad_len (s := s) h; have h2 := ih h1.1; exact ⟨h2.1, Nat.le_trans h1.2 h2.2⟩
theorem o_ads_app (l k : List Int) : ∀ (o : OT), o_ads o (l ++ k) = o_ads (o_ads o l) k := by
  induction l with
  | nil => intro o; rfl
  | cons s t ih => intro o; exact ih (o_ad o s)
theorem o_ads_snoc (l : List Int) (s : Int) (o : OT) : o_ads o (l ++ [s]) = o_ad (o_ads o l) s := o_ads_app l [s] o
theorem o_ad_pre {o : OT} {s : Int} {k : Nat} (hk : k < o.1.length) : (o_ad o s).1[k]? = o.1[k]? := by
  unfold o_ad; split
  · rfl
  · exact List.getElem?_append_left hk
theorem o_ads_pre (l : List Int) : ∀ {o : OT} {k : Nat}, o.1.length ≤ 300 → k < o.1.length → (o_ads o l).1[k]? = o.1[k]? := by
  induction l with
  | nil => intros; rfl
  | cons s t ih => intro o k h hk; have h1 := o_ad_len (s := s) h; exact (ih h1.1 (Nat.lt_of_lt_of_le hk h1.2)).trans (o_ad_pre hk)
theorem o_rep_len (g : List Int) : ∀ (n : Nat) {o : OT}, o.1.length ≤ 300 → (o_rep g n o).1.length ≤ 300 ∧ o.1.length ≤ (o_rep g n o).1.length
  | 0, o, h => ⟨h, Nat.le_refl _⟩
  | n + 1, o, h => by
    unfold o_rep; split
    · exact ⟨h, Nat.le_refl _⟩
    · have h1 := o_ads_len g h; have h2 := o_rep_len g n h1.1; exact ⟨h2.1, Nat.le_trans h1.2 h2.2⟩
theorem o_und_len (L : List Int) (a : Nat) (h : a ≤ L.length) : (o_und L a).length = L.length := by
  simp [o_und]; omega
theorem o_und_at (L : List Int) (a k : Nat) (ha : a ≤ L.length) (hk : k < L.length) : (o_und L a)[k]? = if k < a then L[k]? else (L[a + L.length - 1 - k]?).map o_un := by
  unfold o_und
  by_cases h : k < a
  · rw [if_pos h, List.getElem?_append_left (by simp; omega), List.getElem?_take_of_lt h]
  · rw [if_neg h, List.getElem?_append_right (by simp; omega)]
    simp only [List.getElem?_map, List.length_take]
    rw [List.getElem?_reverse (by simp; omega)]
    simp only [List.getElem?_drop, List.length_drop]
    congr 2
    omega
/-- the reader: bytes, how many, the figures, how many; fuel, where, the groups begun, whether an item stands ahead, what was read -/
def p_run (tx : Nat → Int) (len : Nat) (fig : Nat → List Int) (nf : Nat) : Nat → Nat → List Nat → Bool → OT → Int × OT
  | 0, _, _, _, o => (0, o)
  | n + 1, i, stk, ah, o =>
    if len ≤ i then (if stk = [] ∧ ah = true then (-1, o) else ((len : Int), o)) else
    if 48 ≤ tx i ∧ tx i ≤ 57 then (if i + 1 < len ∧ tx (i + 1) = 60 then p_run tx len fig nf n (i + 2) stk true (o_ad o (10 * (tx i - 48))) else if i + 1 < len ∧ tx (i + 1) = 62 then p_run tx len fig nf n (i + 2) stk true (o_ad o (10 * (tx i - 48) + 1)) else (((i + 1 : Nat) : Int), o)) else
    if tx i = 119 then p_run tx len fig nf n (i + 1) stk true (o_ad o 100) else
    if tx i = 118 then p_run tx len fig nf n (i + 1) stk true (o_ad o 101) else
    if 65 ≤ tx i ∧ tx i ≤ 74 ∧ tx i - 65 < nf then p_run tx len fig nf n (i + 1) stk true (o_ads o (fig (tx i - 65).toNat)) else
    if tx i = 40 ∧ stk.length < 4 then p_run tx len fig nf n (i + 1) (o.1.length :: stk) false o else
    if tx i = 41 ∧ stk ≠ [] ∧ ah = true then (if i + 1 < len ∧ 50 ≤ tx (i + 1) ∧ tx (i + 1) ≤ 57 then p_run tx len fig nf n (i + 2) stk.tail true (o_rep (o.1.drop (stk.headD 0)) (tx (i + 1) - 49).toNat o) else if i + 1 < len ∧ tx (i + 1) = 45 then p_run tx len fig nf n (i + 2) stk.tail true (o_und o.1 (stk.headD 0), o.2) else (((i + 1 : Nat) : Int), o)) else
    ((i : Int), o)
theorem p_fuel {tx : Nat → Int} {len : Nat} {fig : Nat → List Int} {nf : Nat} : ∀ (n m i : Nat) (stk : List Nat) (ah : Bool) (o : OT), len - i < n → len - i < m → p_run tx len fig nf n i stk ah o = p_run tx len fig nf m i stk ah o
  | 0, _, _, _, _, _, h, _ => absurd h (Nat.not_lt_zero _)
  | _ + 1, 0, _, _, _, _, _, h => absurd h (Nat.not_lt_zero _)
  | n + 1, m + 1, i, stk, ah, o, h1, h2 => by
    by_cases hl : len ≤ i
    · simp only [p_run, if_pos hl]
    · have e1 : ∀ stk ah o, p_run tx len fig nf n (i + 1) stk ah o = p_run tx len fig nf m (i + 1) stk ah o := fun stk ah o => p_fuel n m (i + 1) stk ah o (by omega) (by omega)
      by_cases hl2 : i + 1 < len
      · have e2 : ∀ stk ah o, p_run tx len fig nf n (i + 2) stk ah o = p_run tx len fig nf m (i + 2) stk ah o := fun stk ah o => p_fuel n m (i + 2) stk ah o (by omega) (by omega)
        simp only [p_run, if_neg hl, e1, e2]
      · simp only [p_run, if_neg hl, e1, hl2, false_and, if_false]
theorem b_xor1 {s : Int} (h0 : 0 ≤ s ∧ s ≤ 99) : b_xor s 1 = if s % 2 = 0 then s + 1 else s - 1 := by
  have : ∀ n : Fin 100, b_xor ((n.val : Nat) : Int) 1 = if ((n.val : Nat) : Int) % 2 = 0 then ((n.val : Nat) : Int) + 1 else ((n.val : Nat) : Int) - 1 := by decide +kernel
  have q := this ⟨s.toNat, by omega⟩
  simp only at q
  rw [show ((s.toNat : Nat) : Int) = s by omega] at q
  exact q
theorem o_un_ok {s : Int} (q : f_okc s) : f_okc (o_un s) := by
  unfold o_un
  rcases q with q | q | q
  · rw [if_neg (by omega), b_xor1 ⟨q.1, q.2.1⟩]
    refine Or.inl ?_
    rw [Int.tmod_eq_emod_of_nonneg q.1] at q
    split
    · rw [Int.tmod_eq_emod_of_nonneg (by omega)]; omega
    · rw [Int.tmod_eq_emod_of_nonneg (by omega)]; omega
  · subst q; exact Or.inr (Or.inr rfl)
  · subst q; exact Or.inr (Or.inl rfl)
def OKo (o : OT) : Prop := ∀ s ∈ o.1, f_okc s
theorem OKo.ad {o : OT} {s : Int} (x : OKo o) (hs : f_okc s) : OKo (o_ad o s) := by
  unfold o_ad; split
  · exact x
  · intro t ht
    rcases List.mem_append.mp ht with z | z
    · exact x t z
    · rw [List.mem_singleton.mp z]; exact hs
theorem OKo.ads (l : List Int) : ∀ {o : OT}, OKo o → (∀ s ∈ l, f_okc s) → OKo (o_ads o l) := by
  induction l with
  | nil => intro o x _; exact x
  | cons s t ih => intro o x hs; exact ih (x.ad (hs s List.mem_cons_self)) (fun u hu => hs u (List.mem_cons_of_mem _ hu))
theorem OKo.rep (g : List Int) (hg : ∀ s ∈ g, f_okc s) : ∀ (n : Nat) {o : OT}, OKo o → OKo (o_rep g n o)
  | 0, _, x => x
  | n + 1, o, x => by
    unfold o_rep; split
    · exact x
    · exact OKo.rep g hg n (x.ads g hg)
theorem OKo.und {o : OT} {a : Nat} (x : OKo o) : OKo (o_und o.1 a, o.2) := by
  intro s hs
  rcases List.mem_append.mp hs with z | z
  · exact x s (List.mem_of_mem_take z)
  · obtain ⟨u, hu, rfl⟩ := List.mem_map.mp z
    exact o_un_ok (x u (List.mem_of_mem_drop (List.mem_reverse.mp hu)))
/-- the reference's reading: what lies in its rows -/
def OM (h : HT) (o : OT) : Prop := h 102 10 = o.1.length ∧ o.1.length ≤ 300 ∧ (∀ i : Nat, i < o.1.length → o.1[i]? = some (h 103 (3000 + i))) ∧ h 81 32 = if o.2 = true then 1 else 0
/-- kept while reading -/
def FRa (h h' : HT) : Prop := ∀ a i : Nat, (a = 103 → i < 3000) → (a = 102 → i ≠ 10) → (a = 81 → i ≠ 32) → h' a i = h a i
theorem FRa.rf {h : HT} : FRa h h := fun _ _ _ _ _ => rfl
theorem FRa.tr {h h1 h2 : HT} (x : FRa h h1) (y : FRa h1 h2) : FRa h h2 := fun a i p q r => (y a i p q r).trans (x a i p q r)
theorem OM_ad0 {h : HT} {o : OT} {s : Int} (x : OM h o) (hl : o.1.length = 300) : OM (hs_ h 81 32 1) (o_ad o s) ∧ FRa h (hs_ h 81 32 1) := by
  obtain ⟨a, b, c, e⟩ := x
  unfold o_ad; rw [if_pos hl]
  refine ⟨⟨?_, b, ?_, ?_⟩, ?_⟩
  · rw [hs_na (by decide)]; exact a
  · intro i hi; rw [hs_na (by decide)]; exact c i hi
  · rw [hs_eq]; rfl
  · intro a i p q r
    unfold hs_; rw [if_neg]; rintro ⟨z1, z2⟩; exact r z1 z2
theorem OM_ad1 {h : HT} {o : OT} {s : Int} (x : OM h o) (hl : o.1.length ≠ 300) : OM (hs_ (hs_ h 103 (3000 + o.1.length) s) 102 10 ((o.1.length : Int) + 1)) (o_ad o s) ∧ FRa h (hs_ (hs_ h 103 (3000 + o.1.length) s) 102 10 ((o.1.length : Int) + 1)) := by
  obtain ⟨a, b, c, e⟩ := x
  unfold o_ad; rw [if_neg hl]
  refine ⟨⟨?_, ?_, ?_, ?_⟩, ?_⟩
  · rw [hs_eq]; simp
  · simp; omega
  · intro i hi
    rw [hs_na (by decide)]
    simp only [List.length_append, List.length_cons, List.length_nil] at hi
    by_cases hq : i < o.1.length
    · rw [List.getElem?_append_left hq, hs_ni (by omega)]; exact c i hq
    · obtain rfl : i = o.1.length := by omega
      rw [List.getElem?_append_right (Nat.le_refl _), hs_eq]; simp
  · rw [hs_na (by decide), hs_na (by decide)]; exact e
  · intro a i p q r
    rw [show hs_ (hs_ h 103 (3000 + o.1.length) s) 102 10 ((o.1.length : Int) + 1) a i = hs_ h 103 (3000 + o.1.length) s a i from if_neg fun z => q z.1 z.2]
    exact if_neg fun z => by have := p z.1; omega
theorem m_add (d : Nat) (τ : TT) (h : HT) (hT : TK τ) (o : OT) (s : Int) (x : OM h o) : S_ mX12_add d 0 0 [.inr (some 81), .inl s] τ h (Zv τ fun h' => OM h' (o_ad o s) ∧ FRa h h') := by
  have x1 := x.1
  have x2 := x.2.1
  refine S_go (k := 0) (ls := [some (.inr (some 81)), some (.inl s)]) (by decide) rfl (Nat.le_of_ble_eq_true rfl) rfl ?_
  refine G_aload_n (i := 0) dX12_add_0 rfl rfl ?_
  refine G_getR fX12_96 rfl dX12_add_1 (o81 hT) (r81_28 hT) ?_
  refine G_bipush dX12_add_4 (by decide) ?_
  refine G_iald (v := h 102 10) dX12_add_6 (o102 hT) (by decide) rfl ?_
  refine G_sipush dX12_add_7 (by decide) ?_
  refine G_icmp_ne (tgt := 19) dX12_add_10 (by decide) (by omega) (by decide) (fun c_1 => ?_) (fun c_1 => ?_)
  · refine G_aload_n (i := 0) dX12_add_19 rfl rfl ?_
    refine G_getR fX12_99 rfl dX12_add_20 (o81 hT) (r81_29 hT) ?_
    refine G_sipush dX12_add_23 (by decide) ?_
    refine G_aload_n (i := 0) dX12_add_26 rfl rfl ?_
    refine G_getR fX12_96 rfl dX12_add_27 (o81 hT) (r81_28 hT) ?_
    refine G_bipush dX12_add_30 (by decide) ?_
    refine G_iald (v := h 102 10) dX12_add_32 (o102 hT) (by decide) rfl ?_
    refine G_iadd dX12_add_33 ?_
    refine G_iload_n (i := 1) dX12_add_34 rfl rfl ?_
    refine G_iastk ((3000 + (h 102 10)).toNat) dX12_add_35 (o103 hT) (by omega) rfl ?_
    refine G_aload_n (i := 0) dX12_add_36 rfl rfl ?_
    refine G_getR fX12_96 rfl dX12_add_37 (o81 hT) (r81_28 hT) ?_
    refine G_bipush dX12_add_40 (by decide) ?_
    refine G_dup2 dX12_add_42 ?_
    refine G_iald (v := h 102 10) dX12_add_43 (o102 hT) (by decide) (hs_na (by decide)) ?_
    refine G_iconst dX12_add_44 ?_
    refine G_iadd dX12_add_45 ?_
    refine G_iastk 10 dX12_add_46 (o102 hT) (by decide) rfl ?_
    refine G_vretZ rfl dX12_add_47 ?_
    have e1 : (3000 + h 102 10).toNat = 3000 + o.1.length := by omega
    rw [e1, x.1]
    exact OM_ad1 x (by omega)
  · refine G_aload_n (i := 0) dX12_add_13 rfl rfl ?_
    refine G_iconst dX12_add_14 ?_
    refine G_putZ fX12_108 (by decide) dX12_add_15 (o81 hT) ?_
    refine G_vretZ rfl dX12_add_18 ?_
    exact OM_ad0 x (by omega)

theorem m_undoing (d : Nat) (τ : TT) (h : HT) (hT : TK τ) (s : Int) (r_s : -2147483648 ≤ s ∧ s ≤ 2147483647) : S_ mX12_undoing d 0 0 [.inr (some 81), .inl s] τ h (Zi τ fun v h' => v = o_un s ∧ h' = h) := by
  refine S_go (k := 0) (ls := [some (.inr (some 81)), some (.inl s)]) (by decide) rfl (Nat.le_of_ble_eq_true rfl) rfl ?_
  refine G_iload_n (i := 1) dX12_undoing_0 rfl rfl ?_
  refine G_bipush dX12_undoing_1 (by decide) ?_
  refine G_icmp_lt (tgt := 14) dX12_undoing_3 (by decide) (by omega) (by decide) (fun c_1 => ?_) (fun c_1 => ?_)
  · refine G_iload_n (i := 1) dX12_undoing_14 rfl rfl ?_
    refine G_iconst dX12_undoing_15 ?_
    refine G_ixor dX12_undoing_16 ?_
    refine G_iretZ rfl dX12_undoing_17 ?_
    exact ⟨by unfold o_un; first | rw [if_pos (by omega)] | rw [if_neg (by omega)], rfl⟩
  · refine G_sipush dX12_undoing_6 (by decide) ?_
    refine G_iload_n (i := 1) dX12_undoing_9 rfl rfl ?_
    refine G_isub dX12_undoing_10 ?_
    refine G_goto (tgt := 17) dX12_undoing_11 (by decide) ?_
    refine G_iretZ rfl dX12_undoing_17 ?_
    exact ⟨by unfold o_un; first | rw [if_pos (by omega)] | rw [if_neg (by omega)], rfl⟩

def f_nx (h : HT) : Int := if h 81 31 < h 81 27 then h 104 (h 81 31).toNat else -1
theorem S_eq {M : MT} {d : Nat} {as : List AV} {τ : TT} {h : HT} {v v' : Int} (x : S_ M d 0 0 as τ h (Zi τ fun r h' => r = v ∧ h' = h)) (e : v = v') : S_ M d 0 0 as τ h (Zi τ fun r h' => r = v' ∧ h' = h) := e ▸ x
theorem m_next (d : Nat) (τ : TT) (h : HT) (hT : TK τ) (h1 : 0 ≤ h 81 31 ∧ h 81 31 ≤ 80) (h2 : 0 ≤ h 81 27 ∧ h 81 27 ≤ 80) : S_ mX12_next d 0 0 [.inr (some 81)] τ h (Zi τ fun v h' => v = f_nx h ∧ h' = h) := by
  refine S_go (k := 0) (ls := [some (.inr (some 81))]) (by decide) rfl (Nat.le_of_ble_eq_true rfl) rfl ?_
  refine G_aload_n (i := 0) dX12_next_0 rfl rfl ?_
  refine G_getI (v := h 81 31) fX12_105 rfl dX12_next_1 (o81 hT) rfl ?_
  refine G_aload_n (i := 0) dX12_next_4 rfl rfl ?_
  refine G_getI (v := h 81 27) fX12_93 rfl dX12_next_5 (o81 hT) rfl ?_
  refine G_icmp_ge (tgt := 23) dX12_next_8 (by decide) (by omega) (by omega) (fun c_1 => ?_) (fun c_1 => ?_)
  · refine G_iconst dX12_next_23 ?_
    refine G_iretZ rfl dX12_next_24 ?_
    exact ⟨by unfold f_nx; first | rw [if_pos (by omega)] | rw [if_neg (by omega)], rfl⟩
  · refine G_aload_n (i := 0) dX12_next_11 rfl rfl ?_
    refine G_getR fX12_102 rfl dX12_next_12 (o81 hT) (r81_30 hT) ?_
    refine G_aload_n (i := 0) dX12_next_15 rfl rfl ?_
    refine G_getI (v := h 81 31) fX12_105 rfl dX12_next_16 (o81 hT) rfl ?_
    refine G_iald (v := h 104 ((h 81 31).toNat)) dX12_next_19 (o104 hT) (by omega) rfl ?_
    refine G_goto (tgt := 24) dX12_next_20 (by decide) ?_
    refine G_iretZ rfl dX12_next_24 ?_
    exact ⟨by unfold f_nx; first | rw [if_pos (by omega)] | rw [if_neg (by omega)], rfl⟩

