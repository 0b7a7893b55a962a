/-! the class: the reader of texts -/
/-- what the class has read -/
def OX (h : HT) (o : OT) : Prop := h 42 1 = o.1.length ∧ o.1.length ≤ 300 ∧ (∀ i : Nat, i < o.1.length → o.1[i]? = some (h 43 i)) ∧ h 39 5 = if o.2 = true then 1 else 0
def FRr (h h' : HT) : Prop := ∀ a i : Nat, a ≠ 43 → a ≠ 44 → ¬ (a = 42 ∧ i = 1) → ¬ (a = 39 ∧ (i = 5 ∨ i = 7)) → h' a i = h a i
theorem FRr.rf {h : HT} : FRr h h := fun _ _ _ _ _ _ => rfl
theorem FRr.tr {h g k : HT} (x : FRr h g) (y : FRr g k) : FRr h k := fun a i p q r s => (y a i p q r s).trans (x a i p q r s)
/-- of reading alone: the groups too are as they were -/
def FRq (h h' : HT) : Prop := ∀ a i : Nat, a ≠ 43 → ¬ (a = 42 ∧ i = 1) → ¬ (a = 39 ∧ i = 5) → h' a i = h a i
theorem FRq.rf {h : HT} : FRq h h := fun _ _ _ _ _ => rfl
theorem FRq.tr {h g k : HT} (x : FRq h g) (y : FRq g k) : FRq h k := fun a i p q r => (y a i p q r).trans (x a i p q r)
theorem FRq.r {h g : HT} (x : FRq h g) : FRr h g := fun a i p _ r s => x a i p r (fun z => s ⟨z.1, Or.inl z.2⟩)
theorem OX_ad1 {h : HT} {o : OT} {s : Int} (x : OX h o) (hl : o.1.length ≠ 300) : OX (x_addH h 42 300 s) (o_ad o s) ∧ FRq h (x_addH h 42 300 s) := by
  obtain ⟨a, b, c, e⟩ := x
  have e0 : x_addH h 42 300 s = hs_ (hs_ h 43 o.1.length s) 42 1 ((o.1.length : Int) + 1) := by
    unfold x_addH; rw [if_pos (by omega), a]; rfl
  rw [e0]
  unfold o_ad; rw [if_neg hl]
  refine ⟨⟨?_, ?_, ?_, ?_⟩, ?_⟩
  · rw [hs_eq]; simp
  · simp; omega
  · intro i hi
    rw [hs_na (by decide)]
    simp only [List.length_append, List.length_cons, List.length_nil] at hi
    by_cases hq : i < o.1.length
    · rw [List.getElem?_append_left hq, hs_ni (by omega)]; exact c i hq
    · obtain rfl : i = o.1.length := by omega
      rw [List.getElem?_append_right (Nat.le_refl _), hs_eq]; simp
  · rw [hs_na (by decide), hs_na (by decide)]; exact e
  · intro a i p q r
    rw [show hs_ (hs_ h 43 o.1.length s) 42 1 ((o.1.length : Int) + 1) a i = hs_ h 43 o.1.length s a i from if_neg q, hs_na p]
theorem OX_ad0 {h : HT} {o : OT} {s : Int} (x : OX h o) (hl : o.1.length = 300) : OX (hs_ (x_addH h 42 300 s) 39 5 1) (o_ad o s) ∧ FRq h (hs_ (x_addH h 42 300 s) 39 5 1) := by
  obtain ⟨a, b, c, e⟩ := x
  have e0 : x_addH h 42 300 s = h := by unfold x_addH; rw [if_neg (by omega)]
  rw [e0]
  unfold o_ad; rw [if_pos hl]
  refine ⟨⟨?_, b, ?_, ?_⟩, ?_⟩
  · rw [hs_na (by decide)]; exact a
  · intro i hi; rw [hs_na (by decide)]; exact c i hi
  · rw [hs_eq]; rfl
  · intro a i p q r; exact if_neg r
def x_sg (h : HT) (i : Int) : Int := if i < h 39 3 then h 41 i.toNat else -1
theorem x_signAt (d : Nat) (τ : TT) (h : HT) (hT : TK τ) (i : Int) (hi : 0 ≤ i ∧ i ≤ 80) (hl : 0 ≤ h 39 3 ∧ h 39 3 ≤ 80) : S_ mX7_signAt d 0 0 [.inr (some 39), .inl i] τ h (Zi τ fun v h' => v = x_sg h i ∧ h' = h) := by
  refine S_go (k := 0) (ls := [some (.inr (some 39)), some (.inl i)]) (by decide) rfl (Nat.le_of_ble_eq_true rfl) rfl ?_
  refine G_iload_n (i := 1) dX7_signAt_0 rfl rfl ?_
  refine G_aload_n (i := 0) dX7_signAt_1 rfl rfl ?_
  refine G_getI (v := h 39 3) fX7_25 rfl dX7_signAt_2 (o39 hT) rfl ?_
  refine G_icmp_ge (tgt := 17) dX7_signAt_5 (by decide) (by omega) (by omega) (fun c_1 => ?_) (fun c_1 => ?_)
  · refine G_iconst dX7_signAt_17 ?_
    refine G_iretZ rfl dX7_signAt_18 ?_
    exact ⟨by unfold x_sg; first | rw [if_pos (by omega)] | rw [if_neg (by omega)], rfl⟩
  · refine G_aload_n (i := 0) dX7_signAt_8 rfl rfl ?_
    refine G_getR fX7_21 rfl dX7_signAt_9 (o39 hT) (r39_2 hT) ?_
    refine G_iload_n (i := 1) dX7_signAt_12 rfl rfl ?_
    refine G_iald (v := h 41 ((i).toNat)) dX7_signAt_13 (o41 hT) (by omega) rfl ?_
    refine G_goto (tgt := 18) dX7_signAt_14 (by decide) ?_
    refine G_iretZ rfl dX7_signAt_18 ?_
    exact ⟨by unfold x_sg; first | rw [if_pos (by omega)] | rw [if_neg (by omega)], rfl⟩

theorem x_put (d : Nat) (τ : TT) (h : HT) (hT : TK τ) (o : OT) (s : Int) (x : OX h o) : S_ mX7_put (d + 1) 0 0 [.inr (some 39), .inl s] τ h (Zv τ fun h' => OX h' (o_ad o s) ∧ FRq h h') := by
  have x1 := x.1
  have x2 := x.2.1
  refine S_go (k := 0) (ls := [some (.inr (some 39)), some (.inl s)]) (by decide) rfl (Nat.le_of_ble_eq_true rfl) rfl ?_
  refine G_aload_n (i := 0) dX7_put_0 rfl rfl ?_
  refine G_getR fX7_31 rfl dX7_put_1 (o39 hT) (r39_4 hT) ?_
  refine G_iload_n (i := 1) dX7_put_4 rfl rfl ?_
  refine G_cVi (as := [.inl s]) qX7_88 (x_add d τ h 42 300 (st42 hT) s (by omega)) rfl rfl (Nat.le_of_ble_eq_true rfl) (o42 hT) dX7_put_5 (fun v' h' e' => ?_)
  obtain ⟨rfl, rfl⟩ := e'
  have hv : x_addV h 42 300 = if o.1.length = 300 then 0 else 1 := by unfold x_addV; by_cases z : o.1.length = 300; (rw [if_pos z, if_neg (by omega)]); (rw [if_neg z, if_pos (by omega)])
  have hv2 : 0 ≤ x_addV h 42 300 ∧ x_addV h 42 300 ≤ 1 := by rw [hv]; split <;> omega
  refine G_if_ne (tgt := 16) dX7_put_8 (by decide) (by omega) (fun c_1 => ?_) (fun c_1 => ?_)
  · refine G_vretZ rfl dX7_put_16 ?_
    exact OX_ad1 x (fun z => by rw [if_pos z] at hv; omega)
  · refine G_aload_n (i := 0) dX7_put_11 rfl rfl ?_
    refine G_iconst dX7_put_12 ?_
    refine G_putZ fX7_35 (by decide) dX7_put_13 (o39 hT) ?_
    refine G_vretZ rfl dX7_put_16 ?_
    exact OX_ad0 x (by by_cases z : o.1.length = 300; exact z; (rw [if_neg z] at hv; omega))

def stL (h : HT) (b : Nat) : List Int := (List.range (h b 1).toNat).map (h (b + 1))
theorem stL_at {h : HT} {b k : Nat} (hk : k < (h b 1).toNat) : (stL h b)[k]? = some (h (b + 1) k) := by simp [stL, hk]
theorem stL_len {h : HT} {b : Nat} : (stL h b).length = (h b 1).toNat := by simp [stL]
theorem x_putAll_L (d : Nat) (τ : TT) (h : HT) (hT : TK τ) (b L : Nat) (hS : ST τ b L) (hb : 126 ≤ b) (hc : 0 ≤ h b 1 ∧ h b 1 ≤ L) (hL : L ≤ 300) (o : OT) : ∀ (n_ : Nat) (g : HT) (k : Nat), (h b 1).toNat - k < n_ → (k : Int) ≤ h b 1 → OX g (o_ads o ((stL h b).take k)) → FRq h g → G_ mX7_putAll (d + 2) 0 0 2 [some (.inr (some 39)), some (.inr (some b)), some (.inl (k : Int))] [] τ g (Zv τ fun h' => OX h' (o_ads o (stL h b)) ∧ FRq h h') := by
  intro n_
  induction n_ with
  | zero => intro g k hm_; exact absurd hm_ (Nat.not_lt_zero _)
  | succ n_ ih =>
    intro g k hm_ hk x fr
    refine G_iload_n (i := 2) dX7_putAll_2 rfl rfl ?_
    refine G_aload_n (i := 1) dX7_putAll_3 rfl rfl ?_
    refine G_getI (v := h b 1) fX7_64 rfl dX7_putAll_4 hS.1 (fr b 1 (by omega) (by omega) (by omega)) ?_
    refine G_icmp_ge (tgt := 26) dX7_putAll_7 (by decide) (by omega) (by omega) (fun c_1 => ?_) (fun c_1 => ?_)
    · refine G_vretZ rfl dX7_putAll_26 ?_
      refine ⟨?_, fr⟩
      rw [show stL h b = (stL h b).take k from (List.take_of_length_le (by rw [stL_len]; omega)).symm]
      exact x
    · refine G_aload_n (i := 0) dX7_putAll_10 rfl rfl ?_
      refine G_aload_n (i := 1) dX7_putAll_11 rfl rfl ?_
      refine G_getR fX7_92 rfl dX7_putAll_12 hS.1 hS.2.2 ?_
      refine G_iload_n (i := 2) dX7_putAll_15 rfl rfl ?_
      refine G_iald (v := h (b + 1) k) dX7_putAll_16 hS.2.1 (by omega) (fr (b + 1) k (by omega) (by omega) (by omega)) ?_
      refine G_cVv (as := [.inl (h (b + 1) k)]) qX7_77 (x_put d τ g hT (o_ads o ((stL h b).take k)) (h (b + 1) k) x) rfl rfl (Nat.le_of_ble_eq_true rfl) (o39 hT) dX7_putAll_17 (fun g2 e2 => ?_)
      obtain ⟨om2, fr2⟩ := e2
      refine G_iinc (ls' := [some (.inr (some 39)), some (.inr (some b)), some (.inl ((k : Int) + 1))]) dX7_putAll_20 (by decide) rfl rfl ?_
      refine G_goto (tgt := 2) dX7_putAll_23 (by decide) ?_
      have v1 := stL_at (h := h) (b := b) (k := k) (by omega)
      have e9 : (stL h b).take (k + 1) = (stL h b).take k ++ [h (b + 1) k] := by rw [List.take_succ, v1]; rfl
      exact ih g2 (k + 1) (by omega) (by omega) (by rw [e9, o_ads_snoc]; exact om2) (fr.tr fr2)

theorem x_putAll (d : Nat) (τ : TT) (h : HT) (hT : TK τ) (b L : Nat) (hS : ST τ b L) (hb : 126 ≤ b) (hc : 0 ≤ h b 1 ∧ h b 1 ≤ L) (hL : L ≤ 300) (o : OT) (x : OX h o) : S_ mX7_putAll (d + 2) 0 0 [.inr (some 39), .inr (some b)] τ h (Zv τ fun h' => OX h' (o_ads o (stL h b)) ∧ FRq h h') := by
  refine S_go (k := 1) (ls := [some (.inr (some 39)), some (.inr (some b)), none]) (by decide) rfl (Nat.le_of_ble_eq_true rfl) rfl ?_
  refine G_iconst dX7_putAll_0 ?_
  refine G_istore_n (i := 2) (ls' := [some (.inr (some 39)), some (.inr (some b)), some (.inl 0)]) dX7_putAll_1 rfl (by decide) rfl ?_
  exact x_putAll_L d τ h hT b L hS hb hc hL o _ h 0 (Nat.lt_succ_self _) (by omega) x FRq.rf

theorem x_rep_L2 (d : Nat) (τ : TT) (hT : TK τ) (L0 : List Int) (f T q : Nat) (o : OT) (Z : ZT) (g0 : HT) (hpre : ∀ k : Nat, k < L0.length → o.1[k]? = L0[k]?) (ho : o.1.length ≤ 300) (hlo : L0.length ≤ o.1.length) (hf : f ≤ L0.length) (K : ∀ g1 : HT, OX g1 (o_ads o (L0.drop f)) → FRq g0 g1 → G_ mX7_repeatFrom (d + 2) 0 0 11 [some (.inr (some 39)), some (.inl (f : Int)), some (.inl (T : Int)), some (.inl (L0.length : Int)), some (.inl ((q : Int) + 1)), none] [] τ g1 (Z)) : ∀ (n_ : Nat) (g : HT) (j : Nat), L0.length - j < n_ → f ≤ j → j ≤ L0.length → OX g (o_ads o ((L0.drop f).take (j - f))) → FRq g0 g → G_ mX7_repeatFrom (d + 2) 0 0 27 [some (.inr (some 39)), some (.inl (f : Int)), some (.inl (T : Int)), some (.inl (L0.length : Int)), some (.inl (q : Int)), some (.inl (j : Int))] [] τ g (Z) := by
  intro n_
  induction n_ with
  | zero => intro g j hm_; exact absurd hm_ (Nat.not_lt_zero _)
  | succ n_ ih =>
    intro g j hm_ hj1 hj2 x fr
    refine G_iload dX7_repeatFrom_27 rfl ?_
    refine G_iload_n (i := 3) dX7_repeatFrom_29 rfl rfl ?_
    refine G_icmp_ge (tgt := 53) dX7_repeatFrom_30 (by decide) (by omega) (by omega) (fun c_1 => ?_) (fun c_1 => ?_)
    · refine G_iinc (ls' := [some (.inr (some 39)), some (.inl (f : Int)), some (.inl (T : Int)), some (.inl (L0.length : Int)), some (.inl ((q : Int) + 1)), some (.inl (j : Int))]) dX7_repeatFrom_53 (by decide) rfl rfl ?_
      refine G_goto (tgt := 11) dX7_repeatFrom_56 (by decide) ?_
      refine G_lsub (ls' := [some (.inr (some 39)), some (.inl (f : Int)), some (.inl (T : Int)), some (.inl (L0.length : Int)), some (.inl ((q : Int) + 1)), none]) (LS_same (LS_same (LS_same (LS_same (LS_same (LS_none LS_nil)))))) ?_
      exact K g (by rw [show L0.drop f = (L0.drop f).take (j - f) from (List.take_of_length_le (by simp; omega)).symm]; exact x) fr
    · refine G_aload_n (i := 0) dX7_repeatFrom_33 rfl rfl ?_
      refine G_aload_n (i := 0) dX7_repeatFrom_34 rfl rfl ?_
      refine G_getR fX7_31 rfl dX7_repeatFrom_35 (o39 hT) (r39_4 hT) ?_
      refine G_getR fX7_92 rfl dX7_repeatFrom_38 (o42 hT) (r42_0 hT) ?_
      refine G_iload dX7_repeatFrom_41 rfl ?_
      refine G_iald (v := g 43 j) dX7_repeatFrom_43 (o43 hT) (by omega) rfl ?_
      refine G_cVv (as := [.inl (g 43 j)]) qX7_77 (x_put d τ g hT (o_ads o ((L0.drop f).take (j - f))) (g 43 j) x) rfl rfl (Nat.le_of_ble_eq_true rfl) (o39 hT) dX7_repeatFrom_44 (fun g2 e2 => ?_)
      obtain ⟨om2, fr2⟩ := e2
      refine G_iinc (ls' := [some (.inr (some 39)), some (.inl (f : Int)), some (.inl (T : Int)), some (.inl (L0.length : Int)), some (.inl (q : Int)), some (.inl ((j : Int) + 1))]) dX7_repeatFrom_47 (by decide) rfl rfl ?_
      refine G_goto (tgt := 27) dX7_repeatFrom_50 (by decide) ?_
      have hlen := o_ads_len ((L0.drop f).take (j - f)) ho
      have v1 := x.2.2.1 j (by omega)
      rw [o_ads_pre _ ho (by omega), hpre j (by omega)] at v1
      exact ih g2 (j + 1) (by omega) (by omega) (by omega) (by rw [take_s (by omega) v1, o_ads_snoc]; exact om2) (fr.tr fr2)

theorem x_rep_L1 (d : Nat) (τ : TT) (hT : TK τ) (L0 : List Int) (f T : Nat) (hf : f ≤ L0.length) (hT9 : T ≤ 9) (hl3 : L0.length ≤ 300) : ∀ (n_ : Nat) (g : HT) (q : Nat) (o : OT), T - q < n_ → 1 ≤ q ∧ q ≤ T → OX g o → (∀ k : Nat, k < L0.length → o.1[k]? = L0[k]?) → L0.length ≤ o.1.length → G_ mX7_repeatFrom (d + 2) 0 0 11 [some (.inr (some 39)), some (.inl (f : Int)), some (.inl (T : Int)), some (.inl (L0.length : Int)), some (.inl (q : Int)), none] [] τ g (Zv τ fun h' => OX h' (o_rep (L0.drop f) (T - q) o) ∧ FRq g h') := by
  intro n_
  induction n_ with
  | zero => intro g q o hm_; exact absurd hm_ (Nat.not_lt_zero _)
  | succ n_ ih =>
    intro g q o hm_ hq x hpre hlo
    have x4 := x.2.2.2
    have x5 : 0 ≤ g 39 5 ∧ g 39 5 ≤ 1 := by rw [x4]; split <;> omega
    refine G_iload dX7_repeatFrom_11 rfl ?_
    refine G_iload_n (i := 2) dX7_repeatFrom_13 rfl rfl ?_
    refine G_icmp_ge (tgt := 59) dX7_repeatFrom_14 (by decide) (by omega) (by omega) (fun c_1 => ?_) (fun c_1 => ?_)
    · refine G_vretZ rfl dX7_repeatFrom_59 ?_
      first | (rw [show T - q = 0 by omega]; exact ⟨x, FRq.rf⟩) | (have hq2 : o.2 = true := (Classical.em (o.2 = true)).elim id (fun z => by rw [if_neg z] at x4; omega); obtain ⟨n, hn⟩ : ∃ n, T - q = n + 1 := ⟨T - q - 1, by omega⟩; rw [hn]; refine ⟨?_, FRq.rf⟩; show OX g (if o.2 = true then o else _); rw [if_pos hq2]; exact x)
    · refine G_aload_n (i := 0) dX7_repeatFrom_17 rfl rfl ?_
      refine G_getI (v := g 39 5) fX7_35 rfl dX7_repeatFrom_18 (o39 hT) rfl ?_
      refine G_if_ne (tgt := 59) dX7_repeatFrom_21 (by decide) (by omega) (fun c_2 => ?_) (fun c_2 => ?_)
      · refine G_vretZ rfl dX7_repeatFrom_59 ?_
        first | (rw [show T - q = 0 by omega]; exact ⟨x, FRq.rf⟩) | (have hq2 : o.2 = true := (Classical.em (o.2 = true)).elim id (fun z => by rw [if_neg z] at x4; omega); obtain ⟨n, hn⟩ : ∃ n, T - q = n + 1 := ⟨T - q - 1, by omega⟩; rw [hn]; refine ⟨?_, FRq.rf⟩; show OX g (if o.2 = true then o else _); rw [if_pos hq2]; exact x)
      · refine G_iload_n (i := 1) dX7_repeatFrom_24 rfl rfl ?_
        refine G_istore (ls' := [some (.inr (some 39)), some (.inl (f : Int)), some (.inl (T : Int)), some (.inl (L0.length : Int)), some (.inl (q : Int)), some (.inl (f : Int))]) dX7_repeatFrom_25 (by decide) rfl ?_
        have hlen := o_ads_len (L0.drop f) x.2.1
        have hq2 : o.2 ≠ true := by have := x.2.2.2; intro z; rw [z, if_pos rfl] at this; omega
        have e9 : T - q = (T - (q + 1)) + 1 := by omega
        have := x_rep_L2 d τ hT L0 f T q o (Zv τ fun h' => OX h' (o_rep (L0.drop f) (T - q) o) ∧ FRq g h') g hpre x.2.1 hlo hf (fun g1 om1 fr1 => ?_) _ g f (Nat.lt_succ_self _) (Nat.le_refl _) hf (by rw [Nat.sub_self]; exact x) FRq.rf
        · exact this
        · refine G_mono ?_ (ih g1 (q + 1) (o_ads o (L0.drop f)) (by omega) (by omega) om1 (fun k hk => (o_ads_pre _ x.2.1 (by omega)).trans (hpre k hk)) (by omega))
          rintro r τ' h' ⟨q1, q2, q3, q4⟩
          refine ⟨q1, q2, ?_, fr1.tr q4⟩
          rw [e9]; show OX h' (if o.2 = true then o else _); rw [if_neg hq2]; exact q3

theorem x_repeatFrom (d : Nat) (τ : TT) (h : HT) (hT : TK τ) (o : OT) (f T : Nat) (x : OX h o) (hf : f ≤ o.1.length) (hT9 : 1 ≤ T ∧ T ≤ 9) : S_ mX7_repeatFrom (d + 2) 0 0 [.inr (some 39), .inl (f : Int), .inl (T : Int)] τ h (Zv τ fun h' => OX h' (o_rep (o.1.drop f) (T - 1) o) ∧ FRq h h') := by
  refine S_go (k := 3) (ls := [some (.inr (some 39)), some (.inl (f : Int)), some (.inl (T : Int)), none, none, none]) (by decide) rfl (Nat.le_of_ble_eq_true rfl) rfl ?_
  refine G_aload_n (i := 0) dX7_repeatFrom_0 rfl rfl ?_
  refine G_getR fX7_31 rfl dX7_repeatFrom_1 (o39 hT) (r39_4 hT) ?_
  refine G_getI (v := h 42 1) fX7_64 rfl dX7_repeatFrom_4 (o42 hT) rfl ?_
  refine G_istore_n (i := 3) (ls' := [some (.inr (some 39)), some (.inl (f : Int)), some (.inl (T : Int)), some (.inl (h 42 1)), none, none]) dX7_repeatFrom_7 rfl (by decide) rfl ?_
  refine G_iconst dX7_repeatFrom_8 ?_
  refine G_istore (ls' := [some (.inr (some 39)), some (.inl (f : Int)), some (.inl (T : Int)), some (.inl (h 42 1)), some (.inl 1), none]) dX7_repeatFrom_9 (by decide) rfl ?_
  have := x_rep_L1 d τ hT o.1 f T hf hT9.2 x.2.1 _ h 1 o (Nat.lt_succ_self _) (by omega) x (fun k hk => rfl) (Nat.le_refl _)
  rw [x.1]
  exact this

def x_xu (h : HT) (f l i : Nat) : HT := fun b j => if b = 43 ∧ ((f ≤ j ∧ j < f + i) ∨ (l ≤ j + i ∧ j < l)) then b_xor (h 43 (f + l - 1 - j)) 1 else h b j
theorem x_xu0 {h : HT} {f l : Nat} : x_xu h f l 0 = h := by
  funext b j; exact if_neg (by omega)
theorem x_xu_o {h : HT} {f l i j : Nat} (hj : f + i ≤ j ∧ j + i < l) : x_xu h f l i 43 j = h 43 j := if_neg (by omega)
theorem x_xu_s {h : HT} {f l i A B : Nat} (hA : A = f + i) (hB : B + i + 1 = l) (hab : A ≤ B) : hs_ (hs_ (x_xu h f l i) 43 A (b_xor (h 43 B) 1)) 43 B (b_xor (h 43 A) 1) = x_xu h f l (i + 1) := by
  funext b j
  by_cases z : b = 43
  · subst z
    by_cases z1 : j = B
    · rw [z1, hs_eq]
      unfold x_xu
      rw [if_pos ⟨rfl, by omega⟩, show f + l - 1 - B = A by omega]
    · rw [hs_ni z1]
      by_cases z2 : j = A
      · rw [z2, hs_eq]
        unfold x_xu
        rw [if_pos ⟨rfl, by omega⟩, show f + l - 1 - A = B by omega]
      · rw [hs_ni z2]
        unfold x_xu
        by_cases z3 : (f ≤ j ∧ j < f + i) ∨ (l ≤ j + i ∧ j < l)
        · rw [if_pos ⟨rfl, z3⟩, if_pos ⟨rfl, by omega⟩]
        · rw [if_neg (fun q => z3 q.2), if_neg (fun q => by have := q.2; omega)]
  · rw [hs_na z, hs_na z]
    unfold x_xu
    rw [if_neg (fun q => z q.1), if_neg (fun q => z q.1)]
theorem o_un_x {s : Int} (q : f_okc s) : b_xor s 1 = o_un s := by
  unfold o_un
  rcases q with q | q | q
  · rw [if_neg (by omega)]
  · subst q; decide
  · subst q; decide
theorem OX_und {h : HT} {o : OT} {f i : Nat} (x : OX h o) (hf : f ≤ o.1.length) (ok : OKo o) (hi : o.1.length ≤ f + 2 * i) (hi2 : f + 2 * i ≤ o.1.length + 1) : OX (x_xu h f o.1.length i) (o_und o.1 f, o.2) ∧ FRq h (x_xu h f o.1.length i) := by
  obtain ⟨a, b, c, e⟩ := x
  have hl := o_und_len o.1 f hf
  refine ⟨⟨?_, by rw [hl]; exact b, ?_, ?_⟩, ?_⟩
  · rw [show x_xu h f o.1.length i 42 1 = h 42 1 from if_neg fun q => absurd q.1 (by decide), hl]; exact a
  · intro j hj
    rw [hl] at hj
    rw [o_und_at o.1 f j hf hj]
    by_cases h1 : j < f
    · rw [if_pos h1, show x_xu h f o.1.length i 43 j = h 43 j from if_neg fun q => by
        have := q.2
        omega]
      exact c j hj
    · rw [if_neg h1, show x_xu h f o.1.length i 43 j = b_xor (h 43 (f + o.1.length - 1 - j)) 1 from if_pos ⟨rfl, by omega⟩, c _ (by omega)]
      simp only [Option.map_some, Option.some.injEq]
      exact (o_un_x (ok _ (List.mem_of_getElem? (c _ (by omega))))).symm
  · rw [show x_xu h f o.1.length i 39 5 = h 39 5 from if_neg fun q => absurd q.1 (by decide)]; exact e
  · intro a i p q r; exact if_neg fun z => p z.1
theorem x_undoFrom_L (d : Nat) (τ : TT) (h : HT) (hT : TK τ) (o : OT) (f : Nat) (x : OX h o) (hf : f ≤ o.1.length) (ok : OKo o) : ∀ (n_ : Nat) (i : Nat), o.1.length - i < n_ → f + 2 * i ≤ o.1.length + 1 → G_ mX7_undoFrom d 0 0 12 [some (.inr (some 39)), some (.inl (f : Int)), some (.inl ((f + i) : Int)), some (.inl ((o.1.length : Int) - 1 - (i : Int))), none] [] τ (x_xu h f o.1.length i) (Zv τ fun h' => OX h' (o_und o.1 f, o.2) ∧ FRq h h') := by
  intro n_
  induction n_ with
  | zero => intro i hm_; exact absurd hm_ (Nat.not_lt_zero _)
  | succ n_ ih =>
    intro i hm_ hi
    have hl3 := x.2.1
    refine G_iload_n (i := 2) dX7_undoFrom_12 rfl rfl ?_
    refine G_iload_n (i := 3) dX7_undoFrom_13 rfl rfl ?_
    refine G_icmp_gt (tgt := 70) dX7_undoFrom_14 (by decide) (by omega) (by omega) (fun c_1 => ?_) (fun c_1 => ?_)
    · refine G_vretZ rfl dX7_undoFrom_70 ?_
      exact OX_und x hf ok (by omega) hi
    · refine G_aload_n (i := 0) dX7_undoFrom_17 rfl rfl ?_
      refine G_getR fX7_31 rfl dX7_undoFrom_18 (o39 hT) (r39_4 hT) ?_
      refine G_getR fX7_92 rfl dX7_undoFrom_21 (o42 hT) (r42_0 hT) ?_
      refine G_iload_n (i := 2) dX7_undoFrom_24 rfl rfl ?_
      refine G_iald (v := h 43 (f + i)) dX7_undoFrom_25 (o43 hT) (by omega) (x_xu_o (by omega)) ?_
      refine G_istore (ls' := [some (.inr (some 39)), some (.inl (f : Int)), some (.inl ((f + i) : Int)), some (.inl ((o.1.length : Int) - 1 - (i : Int))), some (.inl (h 43 (f + i)))]) dX7_undoFrom_26 (by decide) rfl ?_
      refine G_aload_n (i := 0) dX7_undoFrom_28 rfl rfl ?_
      refine G_getR fX7_31 rfl dX7_undoFrom_29 (o39 hT) (r39_4 hT) ?_
      refine G_getR fX7_92 rfl dX7_undoFrom_32 (o42 hT) (r42_0 hT) ?_
      refine G_iload_n (i := 2) dX7_undoFrom_35 rfl rfl ?_
      refine G_aload_n (i := 0) dX7_undoFrom_36 rfl rfl ?_
      refine G_getR fX7_31 rfl dX7_undoFrom_37 (o39 hT) (r39_4 hT) ?_
      refine G_getR fX7_92 rfl dX7_undoFrom_40 (o42 hT) (r42_0 hT) ?_
      refine G_iload_n (i := 3) dX7_undoFrom_43 rfl rfl ?_
      refine G_iald (v := h 43 (((o.1.length : Int) - 1 - (i : Int)).toNat)) dX7_undoFrom_44 (o43 hT) (by omega) (x_xu_o (by omega)) ?_
      refine G_iconst dX7_undoFrom_45 ?_
      refine G_ixor dX7_undoFrom_46 ?_
      refine G_iastk (f + i) dX7_undoFrom_47 (o43 hT) (by omega) rfl ?_
      refine G_aload_n (i := 0) dX7_undoFrom_48 rfl rfl ?_
      refine G_getR fX7_31 rfl dX7_undoFrom_49 (o39 hT) (r39_4 hT) ?_
      refine G_getR fX7_92 rfl dX7_undoFrom_52 (o42 hT) (r42_0 hT) ?_
      refine G_iload_n (i := 3) dX7_undoFrom_55 rfl rfl ?_
      refine G_iload dX7_undoFrom_56 rfl ?_
      refine G_iconst dX7_undoFrom_58 ?_
      refine G_ixor dX7_undoFrom_59 ?_
      refine G_iastk (((o.1.length : Int) - 1 - (i : Int)).toNat) dX7_undoFrom_60 (o43 hT) (by omega) rfl ?_
      refine G_iinc (ls' := [some (.inr (some 39)), some (.inl (f : Int)), some (.inl (((f + i) : Int) + 1)), some (.inl ((o.1.length : Int) - 1 - (i : Int))), some (.inl (h 43 (f + i)))]) dX7_undoFrom_61 (by decide) rfl rfl ?_
      refine G_iinc (ls' := [some (.inr (some 39)), some (.inl (f : Int)), some (.inl (((f + i) : Int) + 1)), some (.inl (((o.1.length : Int) - 1 - (i : Int)) + (-1))), some (.inl (h 43 (f + i)))]) dX7_undoFrom_64 (by decide) rfl rfl ?_
      refine G_goto (tgt := 12) dX7_undoFrom_67 (by decide) ?_
      refine G_lsub (ls' := [some (.inr (some 39)), some (.inl (f : Int)), some (.inl (((f + i) : Int) + 1)), some (.inl (((o.1.length : Int) - 1 - (i : Int)) + (-1))), none]) (LS_same (LS_same (LS_same (LS_same (LS_none LS_nil))))) ?_
      obtain ⟨B, hB⟩ : ∃ B : Nat, ((o.1.length : Int) - 1 - (i : Int)).toNat = B := ⟨_, rfl⟩
      rw [hB, x_xu_s (h := h) (f := f) (l := o.1.length) (i := i) rfl (by omega) (by omega)]
      have := ih (i + 1) (by omega) (by omega)
      rw [show (o.1.length : Int) - 1 - ((i + 1 : Nat) : Int) = (o.1.length : Int) - 1 - (i : Int) + (-1) by omega, show (f : Int) + ((i + 1 : Nat) : Int) = (f : Int) + (i : Int) + 1 by omega] at this
      exact this

theorem x_undoFrom (d : Nat) (τ : TT) (h : HT) (hT : TK τ) (o : OT) (f : Nat) (x : OX h o) (hf : f ≤ o.1.length) (ok : OKo o) : S_ mX7_undoFrom d 0 0 [.inr (some 39), .inl (f : Int)] τ h (Zv τ fun h' => OX h' (o_und o.1 f, o.2) ∧ FRq h h') := by
  refine S_go (k := 3) (ls := [some (.inr (some 39)), some (.inl (f : Int)), none, none, none]) (by decide) rfl (Nat.le_of_ble_eq_true rfl) rfl ?_
  refine G_iload_n (i := 1) dX7_undoFrom_0 rfl rfl ?_
  refine G_istore_n (i := 2) (ls' := [some (.inr (some 39)), some (.inl (f : Int)), some (.inl (f : Int)), none, none]) dX7_undoFrom_1 rfl (by decide) rfl ?_
  refine G_aload_n (i := 0) dX7_undoFrom_2 rfl rfl ?_
  refine G_getR fX7_31 rfl dX7_undoFrom_3 (o39 hT) (r39_4 hT) ?_
  refine G_getI (v := h 42 1) fX7_64 rfl dX7_undoFrom_6 (o42 hT) rfl ?_
  refine G_iconst dX7_undoFrom_9 ?_
  refine G_isub dX7_undoFrom_10 ?_
  refine G_istore_n (i := 3) (ls' := [some (.inr (some 39)), some (.inl (f : Int)), some (.inl (f : Int)), some (.inl ((h 42 1) - 1)), none]) dX7_undoFrom_11 rfl (by decide) rfl ?_
  have := x_undoFrom_L d τ h hT o f x hf ok _ 0 (Nat.lt_succ_self _) (by omega)
  rw [x_xu0] at this
  rw [x.1]
  rw [show (o.1.length : Int) - 1 - ((0 : Nat) : Int) = (o.1.length : Int) - 1 by omega] at this
  exact this

