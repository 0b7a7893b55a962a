/-! the reference: reads and figure -/
theorem m_reads_L3 (d : Nat) (τ : TT) (h : HT) (hT : TK τ) (D F : Nat) (c : Int) (o : OT) (Z : ZT) (g : HT) (x : MI h) (fr : FRp h g) (hc : c = 65 + (F : Int)) (hF : (F : Int) < h 81 26) (K : ∀ g1 : HT, OM g1 (o_ads o (figL h F)) → FRa g g1 → G_ mX12_reads (d + 2) 0 0 345 [some (.inr (some 81)), some (.inl ((D : Nat) : Int)), some (.inl c), none] [] τ g1 (Z)) : ∀ (n_ : Nat) (g1 : HT) (k : Nat), (h 102 F).toNat - k < n_ → (k : Int) ≤ h 102 F → OM g1 (o_ads o ((figL h F).take k)) → FRa g g1 → G_ mX12_reads (d + 2) 0 0 171 [some (.inr (some 81)), some (.inl ((D : Nat) : Int)), some (.inl c), some (.inl ((k : Nat) : Int))] [] τ g1 (Z) := by
  intro n_
  induction n_ with
  | zero => intro g1 k hm_; exact absurd hm_ (Nat.not_lt_zero _)
  | succ n_ ih =>
    intro g1 k hm_ hk x1 fr1
    have hf10 := x.f_
    have hm := x.ma_ F hF
    have ec : (c - 65).toNat = F := by omega
    have e102 : g1 102 (c - 65).toNat = h 102 F := by rw [ec]; exact (fr1 102 F (by omega) (by omega) (by omega)).trans (fr 102 F (by omega) (by omega) (by omega) (by omega) (by omega))
    have ei : (300 * (c - 65) + (k : Int)).toNat = 300 * F + k := by omega
    refine G_iload_n (i := 3) dX12_reads_171 rfl rfl ?_
    refine G_aload_n (i := 0) dX12_reads_172 rfl rfl ?_
    refine G_getR fX12_96 rfl dX12_reads_173 (o81 hT) (r81_28 hT) ?_
    refine G_iload_n (i := 2) dX12_reads_176 rfl rfl ?_
    refine G_bipush dX12_reads_177 (by decide) ?_
    refine G_isub dX12_reads_179 ?_
    refine G_iald (v := g1 102 ((c - 65).toNat)) dX12_reads_180 (o102 hT) (by omega) rfl ?_
    refine G_icmp_ge (tgt := 209) dX12_reads_181 (by decide) (by omega) (by omega) (fun c_1 => ?_) (fun c_1 => ?_)
    · refine G_goto (tgt := 345) dX12_reads_209 (by decide) ?_
      refine G_lsub (ls' := [some (.inr (some 81)), some (.inl ((D : Nat) : Int)), some (.inl c), none]) (LS_same (LS_same (LS_same (LS_none LS_nil)))) ?_
      exact K g1 (by rw [show figL h F = (figL h F).take k from (List.take_of_length_le (by rw [figL_len]; omega)).symm]; exact x1) fr1
    · refine G_aload_n (i := 0) dX12_reads_184 rfl rfl ?_
      refine G_aload_n (i := 0) dX12_reads_185 rfl rfl ?_
      refine G_getR fX12_99 rfl dX12_reads_186 (o81 hT) (r81_29 hT) ?_
      refine G_sipush dX12_reads_189 (by decide) ?_
      refine G_iload_n (i := 2) dX12_reads_192 rfl rfl ?_
      refine G_bipush dX12_reads_193 (by decide) ?_
      refine G_isub dX12_reads_195 ?_
      refine G_imul dX12_reads_196 ?_
      refine G_iload_n (i := 3) dX12_reads_197 rfl rfl ?_
      refine G_iadd dX12_reads_198 ?_
      refine G_iald (v := g1 103 (((300 * (c - 65)) + ((k : Nat) : Int)).toNat)) dX12_reads_199 (o103 hT) (by omega) rfl ?_
      refine G_cVv (as := [.inl (g1 103 (((300 * (c - 65)) + ((k : Nat) : Int)).toNat))]) qX12_237 (m_add (d + 1) τ g1 hT (o_ads o ((figL h F).take k)) (g1 103 (((300 * (c - 65)) + ((k : Nat) : Int)).toNat)) x1) rfl rfl (Nat.le_of_ble_eq_true rfl) (o81 hT) dX12_reads_200 (fun g2 e2 => ?_)
      obtain ⟨om2, fr2⟩ := e2
      refine G_iinc (ls' := [some (.inr (some 81)), some (.inl ((D : Nat) : Int)), some (.inl c), some (.inl (((k : Nat) : Int) + 1))]) dX12_reads_203 (by decide) rfl rfl ?_
      refine G_goto (tgt := 171) dX12_reads_206 (by decide) ?_
      have e103_ : g1 103 (300 * (c - 65) + (k : Int)).toNat = h 103 (300 * F + k) := by rw [ei]; exact (fr1 103 (300 * F + k) (by omega) (by omega) (by omega)).trans (fr 103 (300 * F + k) (by omega) (by omega) (by omega) (by omega) (by omega))
      rw [e103_] at om2
      have v1 := figL_at (h := h) (f := F) (k := k) (by omega)
      have e9 : (figL h F).take (k + 1) = (figL h F).take k ++ [h 103 (300 * F + k)] := by rw [List.take_succ, v1]; rfl
      exact ih g2 (k + 1) (by omega) (by omega) (by rw [e9, o_ads_snoc]; exact om2) (fr1.tr fr2)

theorem p_run_s {tx : Nat → Int} {len : Nat} {fig : Nat → List Int} {nf n i : Nat} {stk : List Nat} {ah : Bool} {o : OT} : p_run tx len fig nf (n + 1) i stk ah o = (
    if len ≤ i then (if stk = [] ∧ ah = true then (-1, o) else ((len : Int), o)) else
    if 48 ≤ tx i ∧ tx i ≤ 57 then (if i + 1 < len ∧ tx (i + 1) = 60 then p_run tx len fig nf n (i + 2) stk true (o_ad o (10 * (tx i - 48))) else if i + 1 < len ∧ tx (i + 1) = 62 then p_run tx len fig nf n (i + 2) stk true (o_ad o (10 * (tx i - 48) + 1)) else (((i + 1 : Nat) : Int), o)) else
    if tx i = 119 then p_run tx len fig nf n (i + 1) stk true (o_ad o 100) else
    if tx i = 118 then p_run tx len fig nf n (i + 1) stk true (o_ad o 101) else
    if 65 ≤ tx i ∧ tx i ≤ 74 ∧ tx i - 65 < nf then p_run tx len fig nf n (i + 1) stk true (o_ads o (fig (tx i - 65).toNat)) else
    if tx i = 40 ∧ stk.length < 4 then p_run tx len fig nf n (i + 1) (o.1.length :: stk) false o else
    if tx i = 41 ∧ stk ≠ [] ∧ ah = true then (if i + 1 < len ∧ 50 ≤ tx (i + 1) ∧ tx (i + 1) ≤ 57 then p_run tx len fig nf n (i + 2) stk.tail true (o_rep (o.1.drop (stk.headD 0)) (tx (i + 1) - 49).toNat o) else if i + 1 < len ∧ tx (i + 1) = 45 then p_run tx len fig nf n (i + 2) stk.tail true (o_und o.1 (stk.headD 0), o.2) else (((i + 1 : Nat) : Int), o)) else
    ((i : Int), o)) := rfl
theorem p_end1 {tx : Nat → Int} {len : Nat} {fig : Nat → List Int} {nf n i : Nat} {stk : List Nat} {ah : Bool} {o : OT} (h1 : len ≤ i) (h2 : stk = [] ∧ ah = true) : p_run tx len fig nf (n + 1) i stk ah o = (-1, o) := by
  rw [p_run_s, if_pos h1, if_pos h2]
theorem p_end0 {tx : Nat → Int} {len : Nat} {fig : Nat → List Int} {nf n i : Nat} {stk : List Nat} {ah : Bool} {o : OT} (h1 : len ≤ i) (h2 : ¬ (stk = [] ∧ ah = true)) : p_run tx len fig nf (n + 1) i stk ah o = ((len : Int), o) := by
  rw [p_run_s, if_pos h1, if_neg h2]
theorem p_d60 {tx : Nat → Int} {len : Nat} {fig : Nat → List Int} {nf n i : Nat} {stk : List Nat} {ah : Bool} {o : OT} (h1 : ¬ len ≤ i) (h2 : 48 ≤ tx i ∧ tx i ≤ 57) (h3 : i + 1 < len ∧ tx (i + 1) = 60) : p_run tx len fig nf (n + 1) i stk ah o = p_run tx len fig nf n (i + 2) stk true (o_ad o (10 * (tx i - 48))) := by
  rw [p_run_s, if_neg h1, if_pos h2, if_pos h3]
theorem p_d62 {tx : Nat → Int} {len : Nat} {fig : Nat → List Int} {nf n i : Nat} {stk : List Nat} {ah : Bool} {o : OT} (h1 : ¬ len ≤ i) (h2 : 48 ≤ tx i ∧ tx i ≤ 57) (h3 : i + 1 < len ∧ tx (i + 1) = 62) : p_run tx len fig nf (n + 1) i stk ah o = p_run tx len fig nf n (i + 2) stk true (o_ad o (10 * (tx i - 48) + 1)) := by
  rw [p_run_s, if_neg h1, if_pos h2, if_neg (by omega), if_pos h3]
theorem p_dF {tx : Nat → Int} {len : Nat} {fig : Nat → List Int} {nf n i : Nat} {stk : List Nat} {ah : Bool} {o : OT} (h1 : ¬ len ≤ i) (h2 : 48 ≤ tx i ∧ tx i ≤ 57) (h3 : ¬ (i + 1 < len ∧ tx (i + 1) = 60)) (h4 : ¬ (i + 1 < len ∧ tx (i + 1) = 62)) : p_run tx len fig nf (n + 1) i stk ah o = (((i + 1 : Nat) : Int), o) := by
  rw [p_run_s, if_neg h1, if_pos h2, if_neg h3, if_neg h4]
theorem p_w {tx : Nat → Int} {len : Nat} {fig : Nat → List Int} {nf n i : Nat} {stk : List Nat} {ah : Bool} {o : OT} (h1 : ¬ len ≤ i) (h2 : tx i = 119) : p_run tx len fig nf (n + 1) i stk ah o = p_run tx len fig nf n (i + 1) stk true (o_ad o 100) := by
  rw [p_run_s, if_neg h1, if_neg (by omega), if_pos h2]
theorem p_v {tx : Nat → Int} {len : Nat} {fig : Nat → List Int} {nf n i : Nat} {stk : List Nat} {ah : Bool} {o : OT} (h1 : ¬ len ≤ i) (h2 : tx i = 118) : p_run tx len fig nf (n + 1) i stk ah o = p_run tx len fig nf n (i + 1) stk true (o_ad o 101) := by
  rw [p_run_s, if_neg h1, if_neg (by omega), if_neg (by omega), if_pos h2]
theorem p_fg {tx : Nat → Int} {len : Nat} {fig : Nat → List Int} {nf n i : Nat} {stk : List Nat} {ah : Bool} {o : OT} (h1 : ¬ len ≤ i) (h2 : 65 ≤ tx i ∧ tx i ≤ 74 ∧ tx i - 65 < nf) : p_run tx len fig nf (n + 1) i stk ah o = p_run tx len fig nf n (i + 1) stk true (o_ads o (fig (tx i - 65).toNat)) := by
  rw [p_run_s, if_neg h1, if_neg (by omega), if_neg (by omega), if_neg (by omega), if_pos h2]
theorem p_op {tx : Nat → Int} {len : Nat} {fig : Nat → List Int} {nf n i : Nat} {stk : List Nat} {ah : Bool} {o : OT} (h1 : ¬ len ≤ i) (h2 : tx i = 40 ∧ stk.length < 4) : p_run tx len fig nf (n + 1) i stk ah o = p_run tx len fig nf n (i + 1) (o.1.length :: stk) false o := by
  rw [p_run_s, if_neg h1, if_neg (by omega), if_neg (by omega), if_neg (by omega), if_neg (by omega), if_pos h2]
theorem p_cr {tx : Nat → Int} {len : Nat} {fig : Nat → List Int} {nf n i : Nat} {stk : List Nat} {ah : Bool} {o : OT} (h1 : ¬ len ≤ i) (h2 : tx i = 41) (h3 : stk ≠ [] ∧ ah = true) (h4 : i + 1 < len ∧ 50 ≤ tx (i + 1) ∧ tx (i + 1) ≤ 57) : p_run tx len fig nf (n + 1) i stk ah o = p_run tx len fig nf n (i + 2) stk.tail true (o_rep (o.1.drop (stk.headD 0)) (tx (i + 1) - 49).toNat o) := by
  rw [p_run_s, if_neg h1, if_neg (by omega), if_neg (by omega), if_neg (by omega), if_neg (by omega), if_neg (by omega), if_pos ⟨h2, h3⟩, if_pos h4]
theorem p_cu {tx : Nat → Int} {len : Nat} {fig : Nat → List Int} {nf n i : Nat} {stk : List Nat} {ah : Bool} {o : OT} (h1 : ¬ len ≤ i) (h2 : tx i = 41) (h3 : stk ≠ [] ∧ ah = true) (h4 : i + 1 < len ∧ tx (i + 1) = 45) : p_run tx len fig nf (n + 1) i stk ah o = p_run tx len fig nf n (i + 2) stk.tail true (o_und o.1 (stk.headD 0), o.2) := by
  rw [p_run_s, if_neg h1, if_neg (by omega), if_neg (by omega), if_neg (by omega), if_neg (by omega), if_neg (by omega), if_pos ⟨h2, h3⟩, if_neg (by omega), if_pos h4]
theorem p_cF {tx : Nat → Int} {len : Nat} {fig : Nat → List Int} {nf n i : Nat} {stk : List Nat} {ah : Bool} {o : OT} (h1 : ¬ len ≤ i) (h2 : tx i = 41) (h3 : stk ≠ [] ∧ ah = true) (h4 : ¬ (i + 1 < len ∧ 50 ≤ tx (i + 1) ∧ tx (i + 1) ≤ 57)) (h5 : ¬ (i + 1 < len ∧ tx (i + 1) = 45)) : p_run tx len fig nf (n + 1) i stk ah o = (((i + 1 : Nat) : Int), o) := by
  rw [p_run_s, if_neg h1, if_neg (by omega), if_neg (by omega), if_neg (by omega), if_neg (by omega), if_neg (by omega), if_pos ⟨h2, h3⟩, if_neg h4, if_neg h5]
theorem p_bad {tx : Nat → Int} {len : Nat} {fig : Nat → List Int} {nf n i : Nat} {stk : List Nat} {ah : Bool} {o : OT} (h1 : ¬ len ≤ i) (h2 : ¬ (48 ≤ tx i ∧ tx i ≤ 57)) (h3 : tx i ≠ 119 ∧ tx i ≠ 118) (h4 : ¬ (65 ≤ tx i ∧ tx i ≤ 74 ∧ tx i - 65 < nf)) (h5 : ¬ (tx i = 40 ∧ stk.length < 4)) (h6 : ¬ (tx i = 41 ∧ stk ≠ [] ∧ ah = true)) : p_run tx len fig nf (n + 1) i stk ah o = ((i : Int), o) := by
  rw [p_run_s, if_neg h1, if_neg h2, if_neg h3.1, if_neg h3.2, if_neg h4, if_neg h5, if_neg h6]
theorem ok_dig {c : Int} (h1 : 48 ≤ c) (h2 : c ≤ 57) : f_okc (10 * (c - 48)) := by
  refine Or.inl ⟨by omega, by omega, ?_⟩
  rw [Int.tmod_eq_emod_of_nonneg (by omega)]; omega
theorem ok_dig1 {c : Int} (h1 : 48 ≤ c) (h2 : c ≤ 57) : f_okc (10 * (c - 48) + 1) := by
  refine Or.inl ⟨by omega, by omega, ?_⟩
  rw [Int.tmod_eq_emod_of_nonneg (by omega)]; omega
theorem figL_ok {h : HT} (x : MI h) {f : Nat} (hf : (f : Int) < h 81 26) : ∀ s ∈ figL h f, f_okc s := by
  intro s hs
  obtain ⟨k, hk, rfl⟩ := List.mem_map.mp hs
  exact x.to_ f k hf (by have := List.mem_range.mp hk; omega)
theorem m_reads_L (d : Nat) (τ : TT) (h : HT) (hT : TK τ) (x : MI h) : ∀ (n_ : Nat) (g : HT) (i : Nat) (stk : List Nat) (ah : Bool) (o : OT), (h 81 27).toNat - i < n_ → PST g i stk ah o → FRp h g → (i : Int) ≤ h 81 27 → OKo o → G_ mX12_reads (d + 2) 0 0 27 [some (.inr (some 81)), some (.inl ((stk.length : Nat) : Int)), none, none] [] τ g (Zi τ fun v h' => p_res h (PR h ((h 81 27).toNat + 1 - i) i stk ah o) v h') := by
  intro n_
  induction n_ with
  | zero => intro g i stk ah o hm_; exact absurd hm_ (Nat.not_lt_zero _)
  | succ n_ ih =>
    intro g i stk ah o hm_ ps fr hi okk
    have e27 : g 81 27 = h 81 27 := fr 81 27 (by decide) (by decide) (by omega) (by omega) (by omega)
    have e26 : g 81 26 = h 81 26 := fr 81 26 (by decide) (by decide) (by omega) (by omega) (by omega)
    have et : ∀ j, g 104 j = h 104 j := fun j => fr 104 j (by decide) (by decide) (by omega) (by omega) (by omega)
    have hsp := ps.1
    have hfed := x.e_
    have hfig := x.f_
    have hdep := ps.2.2.1
    have it0 := ps.2.2.2.2.2.1 stk.length (Nat.le_refl _)
    have it00 := ps.2.2.2.2.2.1 0 (Nat.zero_le _)
    have hah := ps.2.2.2.2.2.2
    refine G_aload_n (i := 0) dX12_reads_27 rfl rfl ?_
    refine G_getI (v := g 81 31) fX12_105 rfl dX12_reads_28 (o81 hT) rfl ?_
    refine G_aload_n (i := 0) dX12_reads_31 rfl rfl ?_
    refine G_getI (v := g 81 27) fX12_93 rfl dX12_reads_32 (o81 hT) rfl ?_
    refine G_icmp_ge (tgt := 368) dX12_reads_35 (by decide) (by omega) (by omega) (fun c_1 => ?_) (fun c_1 => ?_)
    · refine G_iload_n (i := 1) dX12_reads_368 rfl rfl ?_
      refine G_if_ne (tgt := 385) dX12_reads_369 (by decide) (by omega) (fun c_2 => ?_) (fun c_2 => ?_)
      · refine G_iconst dX12_reads_385 ?_
        refine G_zretZ rfl (by decide) dX12_reads_386 ?_
        have eF : (h 81 27).toNat + 1 - i = ((h 81 27).toNat - i) + 1 := by omega
        show p_res h (p_run _ _ _ _ ((h 81 27).toNat + 1 - i) _ _ _ _) _ _
        rw [eF, p_end0 (by omega) (by rintro ⟨z1, z2⟩; subst z1; simp only [List.length_nil] at *; have := hah.mpr z2; omega)]
        exact ⟨fun q => absurd q (by omega), fun _ => ⟨rfl, by omega⟩, ps.2.1, fr⟩
      · refine G_aload_n (i := 0) dX12_reads_372 rfl rfl ?_
        refine G_getR fX12_114 rfl dX12_reads_373 (o81 hT) (r81_34 hT) ?_
        refine G_iconst dX12_reads_376 ?_
        refine G_iald (v := g 106 0) dX12_reads_377 (o106 hT) (by decide) rfl ?_
        refine G_if_le (tgt := 385) dX12_reads_378 (by decide) (by omega) (fun c_3 => ?_) (fun c_3 => ?_)
        · refine G_iconst dX12_reads_385 ?_
          refine G_zretZ rfl (by decide) dX12_reads_386 ?_
          have eF : (h 81 27).toNat + 1 - i = ((h 81 27).toNat - i) + 1 := by omega
          show p_res h (p_run _ _ _ _ ((h 81 27).toNat + 1 - i) _ _ _ _) _ _
          rw [eF, p_end0 (by omega) (by rintro ⟨z1, z2⟩; subst z1; simp only [List.length_nil] at *; have := hah.mpr z2; omega)]
          exact ⟨fun q => absurd q (by omega), fun _ => ⟨rfl, by omega⟩, ps.2.1, fr⟩
        · refine G_iconst dX12_reads_381 ?_
          refine G_goto (tgt := 386) dX12_reads_382 (by decide) ?_
          refine G_zretZ rfl (by decide) dX12_reads_386 ?_
          obtain rfl : stk = [] := List.length_eq_zero_iff.mp (by omega)
          simp only [List.length_nil] at hah
          have eF : (h 81 27).toNat + 1 - i = ((h 81 27).toNat - i) + 1 := by omega
          show p_res h (p_run _ _ _ _ ((h 81 27).toNat + 1 - i) _ _ _ _) _ _
          rw [eF, p_end1 (by omega) ⟨rfl, hah.mp (by omega)⟩]
          exact ⟨fun _ => rfl, fun q => absurd rfl q, ps.2.1, fr⟩
    · refine G_aload_n (i := 0) dX12_reads_38 rfl rfl ?_
      refine G_cVq (as := []) qX12_241 (S_eq (m_next (d + 1) τ g hT (by omega) (by omega)) ((nx1 hsp (by omega)).trans (et i))) rfl rfl (Nat.le_of_ble_eq_true rfl) (o81 hT) dX12_reads_39 ?_
      have tb := x.tx_ i (by omega)
      refine G_istore_n (i := 2) (ls' := [some (.inr (some 81)), some (.inl ((stk.length : Nat) : Int)), some (.inl (h 104 i)), none]) dX12_reads_42 rfl (by decide) rfl ?_
      refine G_aload_n (i := 0) dX12_reads_43 rfl rfl ?_
      refine G_iload_n (i := 2) dX12_reads_44 rfl rfl ?_
      refine G_bipush dX12_reads_45 (by decide) ?_
      refine G_bipush dX12_reads_47 (by decide) ?_
      refine G_cVq (as := [.inl (h 104 i), .inl 48, .inl 57]) qX12_195 (m_in (d + 1) τ _ 81 (h 104 i) 48 57 (by omega) (by decide) (by decide)) rfl rfl (Nat.le_of_ble_eq_true rfl) (o81 hT) dX12_reads_49 ?_
      refine G_ifb_eq (tgt := 114) dX12_reads_52 (by decide) (fun c_4 => ?_) (fun c_4 => ?_)
      · refine G_iload_n (i := 2) dX12_reads_114 rfl rfl ?_
        refine G_bipush dX12_reads_115 (by decide) ?_
        refine G_icmp_eq (tgt := 126) dX12_reads_117 (by decide) (by omega) (by decide) (fun c_5 => ?_) (fun c_5 => ?_)
        · refine G_aload_n (i := 0) dX12_reads_126 rfl rfl ?_
          refine G_iload_n (i := 2) dX12_reads_127 rfl rfl ?_
          refine G_bipush dX12_reads_128 (by decide) ?_
          refine G_icmp_ne (tgt := 138) dX12_reads_130 (by decide) (by omega) (by decide) (fun q => absurd c_5 q) (fun _ => ?_)
          refine G_bipush dX12_reads_133 (by decide) ?_
          refine G_goto (tgt := 140) dX12_reads_135 (by decide) ?_
          refine G_cVv (as := [.inl 100]) qX12_237 (m_add (d + 1) τ g hT o 100 ps.2.1) rfl rfl (Nat.le_of_ble_eq_true rfl) (o81 hT) dX12_reads_140 (fun g2 e2 => ?_)
          obtain ⟨om2, fr2⟩ := e2
          refine G_goto (tgt := 345) dX12_reads_143 (by decide) ?_
          have pu := (ps.u.grow om2 fr2 (o_ad_len ps.2.1.2.1).2)
          have iu := pu.2.2.2.2.2.2
          have su := pu.1
          have du := pu.2.2.1
          refine G_aload_n (i := 0) dX12_reads_345 rfl rfl ?_
          refine G_getR fX12_114 rfl dX12_reads_346 (o81 hT) (r81_34 hT) ?_
          refine G_iload_n (i := 1) dX12_reads_349 rfl rfl ?_
          refine G_dup2 dX12_reads_350 ?_
          refine G_iald (v := g2 106 stk.length) dX12_reads_351 (o106 hT) (by omega) rfl ?_
          refine G_iconst dX12_reads_352 ?_
          refine G_iadd dX12_reads_353 ?_
          refine G_iastk stk.length dX12_reads_354 (o106 hT) (by omega) rfl ?_
          refine G_aload_n (i := 0) dX12_reads_355 rfl rfl ?_
          refine G_dup dX12_reads_356 ?_
          refine G_getI (v := g2 81 31) fX12_105 rfl dX12_reads_357 (o81 hT) (hs_na (by decide)) ?_
          refine G_iconst dX12_reads_360 ?_
          refine G_iadd dX12_reads_361 ?_
          refine G_putI fX12_105 dX12_reads_362 (o81 hT) ?_
          refine G_goto (tgt := 27) dX12_reads_365 (by decide) ?_
          refine G_lsub (ls' := [some (.inr (some 81)), some (.inl ((stk.length : Nat) : Int)), none, none]) (LS_same (LS_same (LS_none (LS_none LS_nil)))) ?_
          have pn := pu.next
          refine G_mono ?_ (ih _ (i + 1) stk true (o_ad o 100) (by omega) pn (fr.tr (fr2.p.tr (FRp_106.tr FRp_31))) (by omega) (okk.ad (Or.inr (Or.inl rfl))))
          rintro r τ' h' ⟨q1, v, q2, q3⟩
          refine ⟨q1, v, q2, ?_⟩
          have eF : (h 81 27).toNat + 1 - i = ((h 81 27).toNat - i) + 1 := by omega
          show p_res h (p_run _ _ _ _ ((h 81 27).toNat + 1 - i) _ _ _ _) v h'
          rw [eF, (p_w (by omega) (by omega)), p_fuel _ ((h 81 27).toNat + 1 - (i + 1)) _ _ _ _ (by omega) (by omega)]
          exact q3
        · refine G_iload_n (i := 2) dX12_reads_120 rfl rfl ?_
          refine G_bipush dX12_reads_121 (by decide) ?_
          refine G_icmp_ne (tgt := 146) dX12_reads_123 (by decide) (by omega) (by decide) (fun c_6 => ?_) (fun c_6 => ?_)
          · refine G_aload_n (i := 0) dX12_reads_146 rfl rfl ?_
            refine G_iload_n (i := 2) dX12_reads_147 rfl rfl ?_
            refine G_bipush dX12_reads_148 (by decide) ?_
            refine G_bipush dX12_reads_150 (by decide) ?_
            refine G_cVq (as := [.inl (h 104 i), .inl 65, .inl 74]) qX12_195 (m_in (d + 1) τ _ 81 (h 104 i) 65 74 (by omega) (by decide) (by decide)) rfl rfl (Nat.le_of_ble_eq_true rfl) (o81 hT) dX12_reads_152 ?_
            refine G_ifb_eq (tgt := 212) dX12_reads_155 (by decide) (fun c_7 => ?_) (fun c_7 => ?_)
            · refine G_iload_n (i := 2) dX12_reads_212 rfl rfl ?_
              refine G_bipush dX12_reads_213 (by decide) ?_
              refine G_icmp_ne (tgt := 249) dX12_reads_215 (by decide) (by omega) (by decide) (fun c_8 => ?_) (fun c_8 => ?_)
              · refine G_iload_n (i := 2) dX12_reads_249 rfl rfl ?_
                refine G_bipush dX12_reads_250 (by decide) ?_
                refine G_icmp_ne (tgt := 343) dX12_reads_252 (by decide) (by omega) (by decide) (fun c_9 => ?_) (fun c_9 => ?_)
                · refine G_iconst dX12_reads_343 ?_
                  refine G_zretZ rfl (by decide) dX12_reads_344 ?_
                  have eF : (h 81 27).toNat + 1 - i = ((h 81 27).toNat - i) + 1 := by omega
                  show p_res h (p_run _ _ _ _ ((h 81 27).toNat + 1 - i) _ _ _ _) _ _
                  rw [eF, p_bad (by omega) (by omega) (by omega) (by omega) (by omega) (by rintro ⟨z1, z2, z3⟩; first | omega | exact z2 (List.length_eq_zero_iff.mp (by omega)) | (have := hah.mpr z3; omega))]
                  exact ⟨fun q => absurd q (by omega), fun _ => ⟨rfl, by omega⟩, ps.2.1, fr⟩
                · refine G_iload_n (i := 1) dX12_reads_255 rfl rfl ?_
                  refine G_if_le (tgt := 343) dX12_reads_256 (by decide) (by omega) (fun c_10 => ?_) (fun c_10 => ?_)
                  · refine G_iconst dX12_reads_343 ?_
                    refine G_zretZ rfl (by decide) dX12_reads_344 ?_
                    have eF : (h 81 27).toNat + 1 - i = ((h 81 27).toNat - i) + 1 := by omega
                    show p_res h (p_run _ _ _ _ ((h 81 27).toNat + 1 - i) _ _ _ _) _ _
                    rw [eF, p_bad (by omega) (by omega) (by omega) (by omega) (by omega) (by rintro ⟨z1, z2, z3⟩; first | omega | exact z2 (List.length_eq_zero_iff.mp (by omega)) | (have := hah.mpr z3; omega))]
                    exact ⟨fun q => absurd q (by omega), fun _ => ⟨rfl, by omega⟩, ps.2.1, fr⟩
                  · refine G_aload_n (i := 0) dX12_reads_259 rfl rfl ?_
                    obtain ⟨s0, stk2, rfl⟩ : ∃ s t, stk = s :: t := by rcases stk with _ | ⟨s, t⟩; exact absurd (Int.le_refl 0) c_10; exact ⟨s, t, rfl⟩
                    simp only [List.length_cons] at hah it0 hdep ⊢
                    refine G_getR fX12_114 rfl dX12_reads_260 (o81 hT) (r81_34 hT) ?_
                    refine G_iload_n (i := 1) dX12_reads_263 rfl rfl ?_
                    refine G_iald (v := g 106 (stk2.length + 1)) dX12_reads_264 (o106 hT) (by omega) rfl ?_
                    refine G_if_le (tgt := 343) dX12_reads_265 (by decide) (by omega) (fun c_11 => ?_) (fun c_11 => ?_)
                    · refine G_iconst dX12_reads_343 ?_
                      refine G_zretZ rfl (by decide) dX12_reads_344 ?_
                      have eF : (h 81 27).toNat + 1 - i = ((h 81 27).toNat - i) + 1 := by omega
                      show p_res h (p_run _ _ _ _ ((h 81 27).toNat + 1 - i) _ _ _ _) _ _
                      rw [eF, p_bad (by omega) (by omega) (by omega) (by omega) (by omega) (by rintro ⟨z1, z2, z3⟩; first | omega | exact z2 (List.length_eq_zero_iff.mp (by omega)) | (have := hah.mpr z3; omega))]
                      exact ⟨fun q => absurd q (by omega), fun _ => ⟨rfl, by omega⟩, ps.2.1, fr⟩
                    · refine G_aload_n (i := 0) dX12_reads_268 rfl rfl ?_
                      have hah1 : ah = true := hah.mp (by omega)
                      refine G_dup dX12_reads_269 ?_
                      refine G_getI (v := g 81 31) fX12_105 rfl dX12_reads_270 (o81 hT) rfl ?_
                      refine G_iconst dX12_reads_273 ?_
                      refine G_iadd dX12_reads_274 ?_
                      refine G_putI fX12_105 dX12_reads_275 (o81 hT) ?_
                      refine G_aload_n (i := 0) dX12_reads_278 rfl rfl ?_
                      refine G_aload_n (i := 0) dX12_reads_279 rfl rfl ?_
                      refine G_cVq (as := []) qX12_241 (S_eq (m_next (d + 1) τ (hs_ g 81 31 ((g 81 31) + 1)) hT (by rw [hs_eq]; omega) (by rw [hs_ni (by decide)]; omega)) ((nx2 hsp).trans (by rw [e27, et]))) rfl rfl (Nat.le_of_ble_eq_true rfl) (o81 hT) dX12_reads_280 ?_
                      have tb2 : -128 ≤ (if (i : Int) + 1 < h 81 27 then h 104 (i + 1) else -1) ∧ (if (i : Int) + 1 < h 81 27 then h 104 (i + 1) else -1) ≤ 127 := by split; exact x.tx_ (i + 1) (by omega); omega
                      refine G_bipush dX12_reads_283 (by decide) ?_
                      refine G_bipush dX12_reads_285 (by decide) ?_
                      refine G_cVq (as := [.inl (if (i : Int) + 1 < h 81 27 then h 104 (i + 1) else -1), .inl 50, .inl 57]) qX12_195 (m_in (d + 1) τ _ 81 (if (i : Int) + 1 < h 81 27 then h 104 (i + 1) else -1) 50 57 (by omega) (by decide) (by decide)) rfl rfl (Nat.le_of_ble_eq_true rfl) (o81 hT) dX12_reads_287 ?_
                      refine G_ifb_eq (tgt := 313) dX12_reads_290 (by decide) (fun c_12 => ?_) (fun c_12 => ?_)
                      · refine G_aload_n (i := 0) dX12_reads_313 rfl rfl ?_
                        refine G_cVq (as := []) qX12_241 (S_eq (m_next (d + 1) τ (hs_ g 81 31 ((g 81 31) + 1)) hT (by rw [hs_eq]; omega) (by rw [hs_ni (by decide)]; omega)) ((nx2 hsp).trans (by rw [e27, et]))) rfl rfl (Nat.le_of_ble_eq_true rfl) (o81 hT) dX12_reads_314 ?_
                        refine G_bipush dX12_reads_317 (by decide) ?_
                        refine G_icmp_ne (tgt := 335) dX12_reads_319 (by decide) (by omega) (by decide) (fun c_13 => ?_) (fun c_13 => ?_)
                        · refine G_iconst dX12_reads_335 ?_
                          refine G_zretZ rfl (by decide) dX12_reads_336 ?_
                          have eF : (h 81 27).toNat + 1 - i = ((h 81 27).toNat - i) + 1 := by omega
                          show p_res h (p_run _ _ _ _ ((h 81 27).toNat + 1 - i) _ _ _ _) _ _
                          rw [eF, p_cF (by omega) (by omega) ⟨List.cons_ne_nil _ _, hah1⟩ (by omega) (by omega)]
                          exact ⟨fun q => absurd q (by omega), fun _ => ⟨rfl, by rw [hs_eq]; omega⟩, ps.step.2.1, fr.tr FRp_31⟩
                        · refine G_aload_n (i := 0) dX12_reads_322 rfl rfl ?_
                          refine G_aload_n (i := 0) dX12_reads_323 rfl rfl ?_
                          refine G_getR fX12_111 rfl dX12_reads_324 (o81 hT) (r81_33 hT) ?_
                          refine G_iload_n (i := 1) dX12_reads_327 rfl rfl ?_
                          refine G_iald (v := (s0 : Int)) dX12_reads_328 (o105 hT) (by omega) ((hs_na (by decide)).trans (ps.top.1)) ?_
                          refine G_cVv (as := [.inl (s0 : Int)]) qX12_251 (m_undo' d τ (hs_ g 81 31 ((g 81 31) + 1)) hT o (s0 : Int) s0 ps.step.2.1 ps.top.2 okk rfl) rfl rfl (Nat.le_of_ble_eq_true rfl) (o81 hT) dX12_reads_329 (fun g2 e2 => ?_)
                          obtain ⟨om2, fr2⟩ := e2
                          refine G_goto (tgt := 337) dX12_reads_332 (by decide) ?_
                          refine G_iinc (ls' := [some (.inr (some 81)), some (.inl ((((stk2.length + 1) : Nat) : Int) + (-1))), some (.inl (h 104 i)), none]) dX12_reads_337 (by decide) rfl rfl ?_
                          rw [show ((stk2.length + 1 : Nat) : Int) + (-1) = ((stk2.length : Nat) : Int) by omega]
                          refine G_goto (tgt := 345) dX12_reads_340 (by decide) ?_
                          have pu := (ps.step.pop om2 fr2 (by rw [o_und_len _ _ ps.top.2]; exact Nat.le_refl _))
                          have iu := pu.2.2.2.2.2.2
                          have su := pu.1
                          have du := pu.2.2.1
                          refine G_aload_n (i := 0) dX12_reads_345 rfl rfl ?_
                          refine G_getR fX12_114 rfl dX12_reads_346 (o81 hT) (r81_34 hT) ?_
                          refine G_iload_n (i := 1) dX12_reads_349 rfl rfl ?_
                          refine G_dup2 dX12_reads_350 ?_
                          refine G_iald (v := g2 106 stk2.length) dX12_reads_351 (o106 hT) (by omega) rfl ?_
                          refine G_iconst dX12_reads_352 ?_
                          refine G_iadd dX12_reads_353 ?_
                          refine G_iastk stk2.length dX12_reads_354 (o106 hT) (by omega) rfl ?_
                          refine G_aload_n (i := 0) dX12_reads_355 rfl rfl ?_
                          refine G_dup dX12_reads_356 ?_
                          refine G_getI (v := g2 81 31) fX12_105 rfl dX12_reads_357 (o81 hT) (hs_na (by decide)) ?_
                          refine G_iconst dX12_reads_360 ?_
                          refine G_iadd dX12_reads_361 ?_
                          refine G_putI fX12_105 dX12_reads_362 (o81 hT) ?_
                          refine G_goto (tgt := 27) dX12_reads_365 (by decide) ?_
                          refine G_lsub (ls' := [some (.inr (some 81)), some (.inl ((stk2.length : Nat) : Int)), none, none]) (LS_same (LS_same (LS_none (LS_none LS_nil)))) ?_
                          have pn := pu.next
                          refine G_mono ?_ (ih _ (i + 2) stk2 true (o_und o.1 s0, o.2) (by omega) pn (fr.tr (FRp_31.tr (fr2.p.tr (FRp_106.tr FRp_31)))) (by omega) okk.und)
                          rintro r τ' h' ⟨q1, v, q2, q3⟩
                          refine ⟨q1, v, q2, ?_⟩
                          have eF : (h 81 27).toNat + 1 - i = ((h 81 27).toNat - i) + 1 := by omega
                          show p_res h (p_run _ _ _ _ ((h 81 27).toNat + 1 - i) _ _ _ _) v h'
                          rw [eF, (p_cu (by omega) (by omega) ⟨List.cons_ne_nil _ _, hah1⟩ (by omega)), p_fuel _ ((h 81 27).toNat + 1 - (i + 2)) _ _ _ _ (by omega) (by omega)]
                          exact q3
                      · refine G_aload_n (i := 0) dX12_reads_293 rfl rfl ?_
                        refine G_aload_n (i := 0) dX12_reads_294 rfl rfl ?_
                        refine G_getR fX12_111 rfl dX12_reads_295 (o81 hT) (r81_33 hT) ?_
                        refine G_iload_n (i := 1) dX12_reads_298 rfl rfl ?_
                        refine G_iald (v := (s0 : Int)) dX12_reads_299 (o105 hT) (by omega) ((hs_na (by decide)).trans (ps.top.1)) ?_
                        refine G_aload_n (i := 0) dX12_reads_300 rfl rfl ?_
                        refine G_cVq (as := []) qX12_241 (S_eq (m_next (d + 1) τ (hs_ g 81 31 ((g 81 31) + 1)) hT (by rw [hs_eq]; omega) (by rw [hs_ni (by decide)]; omega)) ((nx2 hsp).trans (by rw [e27, et]))) rfl rfl (Nat.le_of_ble_eq_true rfl) (o81 hT) dX12_reads_301 ?_
                        refine G_bipush dX12_reads_304 (by decide) ?_
                        refine G_isub dX12_reads_306 ?_
                        refine G_cVv (as := [.inl (s0 : Int), .inl ((if (i : Int) + 1 < h 81 27 then h 104 (i + 1) else -1) - 48)]) qX12_247 (m_repeat' d τ (hs_ g 81 31 ((g 81 31) + 1)) hT o (s0 : Int) ((if (i : Int) + 1 < h 81 27 then h 104 (i + 1) else -1) - 48) s0 ((if (i : Int) + 1 < h 81 27 then h 104 (i + 1) else -1) - 48).toNat ps.step.2.1 ps.top.2 (by omega) rfl (by omega)) rfl rfl (Nat.le_of_ble_eq_true rfl) (o81 hT) dX12_reads_307 (fun g2 e2 => ?_)
                        obtain ⟨om2, fr2⟩ := e2
                        refine G_goto (tgt := 337) dX12_reads_310 (by decide) ?_
                        refine G_iinc (ls' := [some (.inr (some 81)), some (.inl ((((stk2.length + 1) : Nat) : Int) + (-1))), some (.inl (h 104 i)), none]) dX12_reads_337 (by decide) rfl rfl ?_
                        rw [show ((stk2.length + 1 : Nat) : Int) + (-1) = ((stk2.length : Nat) : Int) by omega]
                        refine G_goto (tgt := 345) dX12_reads_340 (by decide) ?_
                        rw [show ((if (i : Int) + 1 < h 81 27 then h 104 (i + 1) else -1) - 48).toNat - 1 = (h 104 (i + 1) - 49).toNat by omega] at om2
                        have pu := (ps.step.pop om2 fr2 (o_rep_len _ _ ps.2.1.2.1).2)
                        have iu := pu.2.2.2.2.2.2
                        have su := pu.1
                        have du := pu.2.2.1
                        refine G_aload_n (i := 0) dX12_reads_345 rfl rfl ?_
                        refine G_getR fX12_114 rfl dX12_reads_346 (o81 hT) (r81_34 hT) ?_
                        refine G_iload_n (i := 1) dX12_reads_349 rfl rfl ?_
                        refine G_dup2 dX12_reads_350 ?_
                        refine G_iald (v := g2 106 stk2.length) dX12_reads_351 (o106 hT) (by omega) rfl ?_
                        refine G_iconst dX12_reads_352 ?_
                        refine G_iadd dX12_reads_353 ?_
                        refine G_iastk stk2.length dX12_reads_354 (o106 hT) (by omega) rfl ?_
                        refine G_aload_n (i := 0) dX12_reads_355 rfl rfl ?_
                        refine G_dup dX12_reads_356 ?_
                        refine G_getI (v := g2 81 31) fX12_105 rfl dX12_reads_357 (o81 hT) (hs_na (by decide)) ?_
                        refine G_iconst dX12_reads_360 ?_
                        refine G_iadd dX12_reads_361 ?_
                        refine G_putI fX12_105 dX12_reads_362 (o81 hT) ?_
                        refine G_goto (tgt := 27) dX12_reads_365 (by decide) ?_
                        refine G_lsub (ls' := [some (.inr (some 81)), some (.inl ((stk2.length : Nat) : Int)), none, none]) (LS_same (LS_same (LS_none (LS_none LS_nil)))) ?_
                        have pn := pu.next
                        refine G_mono ?_ (ih _ (i + 2) stk2 true (o_rep (o.1.drop s0) (h 104 (i + 1) - 49).toNat o) (by omega) pn (fr.tr (FRp_31.tr (fr2.p.tr (FRp_106.tr FRp_31)))) (by omega) (OKo.rep _ (fun s hs => okk s (List.mem_of_mem_drop hs)) _ okk))
                        rintro r τ' h' ⟨q1, v, q2, q3⟩
                        refine ⟨q1, v, q2, ?_⟩
                        have eF : (h 81 27).toNat + 1 - i = ((h 81 27).toNat - i) + 1 := by omega
                        show p_res h (p_run _ _ _ _ ((h 81 27).toNat + 1 - i) _ _ _ _) v h'
                        rw [eF, (p_cr (by omega) (by omega) ⟨List.cons_ne_nil _ _, hah1⟩ (by omega)), p_fuel _ ((h 81 27).toNat + 1 - (i + 2)) _ _ _ _ (by omega) (by omega)]
                        exact q3
              · refine G_iload_n (i := 1) dX12_reads_218 rfl rfl ?_
                refine G_iconst dX12_reads_219 ?_
                refine G_icmp_ge (tgt := 249) dX12_reads_220 (by decide) (by omega) (by decide) (fun c_14 => ?_) (fun c_14 => ?_)
                · refine G_iload_n (i := 2) dX12_reads_249 rfl rfl ?_
                  refine G_bipush dX12_reads_250 (by decide) ?_
                  refine G_icmp_ne (tgt := 343) dX12_reads_252 (by decide) (by omega) (by decide) (fun c_15 => ?_) (fun c_15 => ?_)
                  · refine G_iconst dX12_reads_343 ?_
                    refine G_zretZ rfl (by decide) dX12_reads_344 ?_
                    have eF : (h 81 27).toNat + 1 - i = ((h 81 27).toNat - i) + 1 := by omega
                    show p_res h (p_run _ _ _ _ ((h 81 27).toNat + 1 - i) _ _ _ _) _ _
                    rw [eF, p_bad (by omega) (by omega) (by omega) (by omega) (by omega) (by rintro ⟨z1, z2, z3⟩; first | omega | exact z2 (List.length_eq_zero_iff.mp (by omega)) | (have := hah.mpr z3; omega))]
                    exact ⟨fun q => absurd q (by omega), fun _ => ⟨rfl, by omega⟩, ps.2.1, fr⟩
                  · refine G_iload_n (i := 1) dX12_reads_255 rfl rfl ?_
                    refine G_if_le (tgt := 343) dX12_reads_256 (by decide) (by omega) (fun c_16 => ?_) (fun c_16 => ?_)
                    · refine G_iconst dX12_reads_343 ?_
                      refine G_zretZ rfl (by decide) dX12_reads_344 ?_
                      have eF : (h 81 27).toNat + 1 - i = ((h 81 27).toNat - i) + 1 := by omega
                      show p_res h (p_run _ _ _ _ ((h 81 27).toNat + 1 - i) _ _ _ _) _ _
                      rw [eF, p_bad (by omega) (by omega) (by omega) (by omega) (by omega) (by rintro ⟨z1, z2, z3⟩; first | omega | exact z2 (List.length_eq_zero_iff.mp (by omega)) | (have := hah.mpr z3; omega))]
                      exact ⟨fun q => absurd q (by omega), fun _ => ⟨rfl, by omega⟩, ps.2.1, fr⟩
                    · refine G_aload_n (i := 0) dX12_reads_259 rfl rfl ?_
                      obtain ⟨s0, stk2, rfl⟩ : ∃ s t, stk = s :: t := by rcases stk with _ | ⟨s, t⟩; exact absurd (Int.le_refl 0) c_16; exact ⟨s, t, rfl⟩
                      simp only [List.length_cons] at hah it0 hdep ⊢
                      refine G_getR fX12_114 rfl dX12_reads_260 (o81 hT) (r81_34 hT) ?_
                      refine G_iload_n (i := 1) dX12_reads_263 rfl rfl ?_
                      refine G_iald (v := g 106 (stk2.length + 1)) dX12_reads_264 (o106 hT) (by omega) rfl ?_
                      refine G_if_le (tgt := 343) dX12_reads_265 (by decide) (by omega) (fun c_17 => ?_) (fun c_17 => ?_)
                      · refine G_iconst dX12_reads_343 ?_
                        refine G_zretZ rfl (by decide) dX12_reads_344 ?_
                        have eF : (h 81 27).toNat + 1 - i = ((h 81 27).toNat - i) + 1 := by omega
                        show p_res h (p_run _ _ _ _ ((h 81 27).toNat + 1 - i) _ _ _ _) _ _
                        rw [eF, p_bad (by omega) (by omega) (by omega) (by omega) (by omega) (by rintro ⟨z1, z2, z3⟩; first | omega | exact z2 (List.length_eq_zero_iff.mp (by omega)) | (have := hah.mpr z3; omega))]
                        exact ⟨fun q => absurd q (by omega), fun _ => ⟨rfl, by omega⟩, ps.2.1, fr⟩
                      · refine G_aload_n (i := 0) dX12_reads_268 rfl rfl ?_
                        have hah1 : ah = true := hah.mp (by omega)
                        refine G_dup dX12_reads_269 ?_
                        refine G_getI (v := g 81 31) fX12_105 rfl dX12_reads_270 (o81 hT) rfl ?_
                        refine G_iconst dX12_reads_273 ?_
                        refine G_iadd dX12_reads_274 ?_
                        refine G_putI fX12_105 dX12_reads_275 (o81 hT) ?_
                        refine G_aload_n (i := 0) dX12_reads_278 rfl rfl ?_
                        refine G_aload_n (i := 0) dX12_reads_279 rfl rfl ?_
                        refine G_cVq (as := []) qX12_241 (S_eq (m_next (d + 1) τ (hs_ g 81 31 ((g 81 31) + 1)) hT (by rw [hs_eq]; omega) (by rw [hs_ni (by decide)]; omega)) ((nx2 hsp).trans (by rw [e27, et]))) rfl rfl (Nat.le_of_ble_eq_true rfl) (o81 hT) dX12_reads_280 ?_
                        have tb2 : -128 ≤ (if (i : Int) + 1 < h 81 27 then h 104 (i + 1) else -1) ∧ (if (i : Int) + 1 < h 81 27 then h 104 (i + 1) else -1) ≤ 127 := by split; exact x.tx_ (i + 1) (by omega); omega
                        refine G_bipush dX12_reads_283 (by decide) ?_
                        refine G_bipush dX12_reads_285 (by decide) ?_
                        refine G_cVq (as := [.inl (if (i : Int) + 1 < h 81 27 then h 104 (i + 1) else -1), .inl 50, .inl 57]) qX12_195 (m_in (d + 1) τ _ 81 (if (i : Int) + 1 < h 81 27 then h 104 (i + 1) else -1) 50 57 (by omega) (by decide) (by decide)) rfl rfl (Nat.le_of_ble_eq_true rfl) (o81 hT) dX12_reads_287 ?_
                        refine G_ifb_eq (tgt := 313) dX12_reads_290 (by decide) (fun c_18 => ?_) (fun c_18 => ?_)
                        · refine G_aload_n (i := 0) dX12_reads_313 rfl rfl ?_
                          refine G_cVq (as := []) qX12_241 (S_eq (m_next (d + 1) τ (hs_ g 81 31 ((g 81 31) + 1)) hT (by rw [hs_eq]; omega) (by rw [hs_ni (by decide)]; omega)) ((nx2 hsp).trans (by rw [e27, et]))) rfl rfl (Nat.le_of_ble_eq_true rfl) (o81 hT) dX12_reads_314 ?_
                          refine G_bipush dX12_reads_317 (by decide) ?_
                          refine G_icmp_ne (tgt := 335) dX12_reads_319 (by decide) (by omega) (by decide) (fun c_19 => ?_) (fun c_19 => ?_)
                          · refine G_iconst dX12_reads_335 ?_
                            refine G_zretZ rfl (by decide) dX12_reads_336 ?_
                            have eF : (h 81 27).toNat + 1 - i = ((h 81 27).toNat - i) + 1 := by omega
                            show p_res h (p_run _ _ _ _ ((h 81 27).toNat + 1 - i) _ _ _ _) _ _
                            rw [eF, p_cF (by omega) (by omega) ⟨List.cons_ne_nil _ _, hah1⟩ (by omega) (by omega)]
                            exact ⟨fun q => absurd q (by omega), fun _ => ⟨rfl, by rw [hs_eq]; omega⟩, ps.step.2.1, fr.tr FRp_31⟩
                          · refine G_aload_n (i := 0) dX12_reads_322 rfl rfl ?_
                            refine G_aload_n (i := 0) dX12_reads_323 rfl rfl ?_
                            refine G_getR fX12_111 rfl dX12_reads_324 (o81 hT) (r81_33 hT) ?_
                            refine G_iload_n (i := 1) dX12_reads_327 rfl rfl ?_
                            refine G_iald (v := (s0 : Int)) dX12_reads_328 (o105 hT) (by omega) ((hs_na (by decide)).trans (ps.top.1)) ?_
                            refine G_cVv (as := [.inl (s0 : Int)]) qX12_251 (m_undo' d τ (hs_ g 81 31 ((g 81 31) + 1)) hT o (s0 : Int) s0 ps.step.2.1 ps.top.2 okk rfl) rfl rfl (Nat.le_of_ble_eq_true rfl) (o81 hT) dX12_reads_329 (fun g2 e2 => ?_)
                            obtain ⟨om2, fr2⟩ := e2
                            refine G_goto (tgt := 337) dX12_reads_332 (by decide) ?_
                            refine G_iinc (ls' := [some (.inr (some 81)), some (.inl ((((stk2.length + 1) : Nat) : Int) + (-1))), some (.inl (h 104 i)), none]) dX12_reads_337 (by decide) rfl rfl ?_
                            rw [show ((stk2.length + 1 : Nat) : Int) + (-1) = ((stk2.length : Nat) : Int) by omega]
                            refine G_goto (tgt := 345) dX12_reads_340 (by decide) ?_
                            have pu := (ps.step.pop om2 fr2 (by rw [o_und_len _ _ ps.top.2]; exact Nat.le_refl _))
                            have iu := pu.2.2.2.2.2.2
                            have su := pu.1
                            have du := pu.2.2.1
                            refine G_aload_n (i := 0) dX12_reads_345 rfl rfl ?_
                            refine G_getR fX12_114 rfl dX12_reads_346 (o81 hT) (r81_34 hT) ?_
                            refine G_iload_n (i := 1) dX12_reads_349 rfl rfl ?_
                            refine G_dup2 dX12_reads_350 ?_
                            refine G_iald (v := g2 106 stk2.length) dX12_reads_351 (o106 hT) (by omega) rfl ?_
                            refine G_iconst dX12_reads_352 ?_
                            refine G_iadd dX12_reads_353 ?_
                            refine G_iastk stk2.length dX12_reads_354 (o106 hT) (by omega) rfl ?_
                            refine G_aload_n (i := 0) dX12_reads_355 rfl rfl ?_
                            refine G_dup dX12_reads_356 ?_
                            refine G_getI (v := g2 81 31) fX12_105 rfl dX12_reads_357 (o81 hT) (hs_na (by decide)) ?_
                            refine G_iconst dX12_reads_360 ?_
                            refine G_iadd dX12_reads_361 ?_
                            refine G_putI fX12_105 dX12_reads_362 (o81 hT) ?_
                            refine G_goto (tgt := 27) dX12_reads_365 (by decide) ?_
                            refine G_lsub (ls' := [some (.inr (some 81)), some (.inl ((stk2.length : Nat) : Int)), none, none]) (LS_same (LS_same (LS_none (LS_none LS_nil)))) ?_
                            have pn := pu.next
                            refine G_mono ?_ (ih _ (i + 2) stk2 true (o_und o.1 s0, o.2) (by omega) pn (fr.tr (FRp_31.tr (fr2.p.tr (FRp_106.tr FRp_31)))) (by omega) okk.und)
                            rintro r τ' h' ⟨q1, v, q2, q3⟩
                            refine ⟨q1, v, q2, ?_⟩
                            have eF : (h 81 27).toNat + 1 - i = ((h 81 27).toNat - i) + 1 := by omega
                            show p_res h (p_run _ _ _ _ ((h 81 27).toNat + 1 - i) _ _ _ _) v h'
                            rw [eF, (p_cu (by omega) (by omega) ⟨List.cons_ne_nil _ _, hah1⟩ (by omega)), p_fuel _ ((h 81 27).toNat + 1 - (i + 2)) _ _ _ _ (by omega) (by omega)]
                            exact q3
                        · refine G_aload_n (i := 0) dX12_reads_293 rfl rfl ?_
                          refine G_aload_n (i := 0) dX12_reads_294 rfl rfl ?_
                          refine G_getR fX12_111 rfl dX12_reads_295 (o81 hT) (r81_33 hT) ?_
                          refine G_iload_n (i := 1) dX12_reads_298 rfl rfl ?_
                          refine G_iald (v := (s0 : Int)) dX12_reads_299 (o105 hT) (by omega) ((hs_na (by decide)).trans (ps.top.1)) ?_
                          refine G_aload_n (i := 0) dX12_reads_300 rfl rfl ?_
                          refine G_cVq (as := []) qX12_241 (S_eq (m_next (d + 1) τ (hs_ g 81 31 ((g 81 31) + 1)) hT (by rw [hs_eq]; omega) (by rw [hs_ni (by decide)]; omega)) ((nx2 hsp).trans (by rw [e27, et]))) rfl rfl (Nat.le_of_ble_eq_true rfl) (o81 hT) dX12_reads_301 ?_
                          refine G_bipush dX12_reads_304 (by decide) ?_
                          refine G_isub dX12_reads_306 ?_
                          refine G_cVv (as := [.inl (s0 : Int), .inl ((if (i : Int) + 1 < h 81 27 then h 104 (i + 1) else -1) - 48)]) qX12_247 (m_repeat' d τ (hs_ g 81 31 ((g 81 31) + 1)) hT o (s0 : Int) ((if (i : Int) + 1 < h 81 27 then h 104 (i + 1) else -1) - 48) s0 ((if (i : Int) + 1 < h 81 27 then h 104 (i + 1) else -1) - 48).toNat ps.step.2.1 ps.top.2 (by omega) rfl (by omega)) rfl rfl (Nat.le_of_ble_eq_true rfl) (o81 hT) dX12_reads_307 (fun g2 e2 => ?_)
                          obtain ⟨om2, fr2⟩ := e2
                          refine G_goto (tgt := 337) dX12_reads_310 (by decide) ?_
                          refine G_iinc (ls' := [some (.inr (some 81)), some (.inl ((((stk2.length + 1) : Nat) : Int) + (-1))), some (.inl (h 104 i)), none]) dX12_reads_337 (by decide) rfl rfl ?_
                          rw [show ((stk2.length + 1 : Nat) : Int) + (-1) = ((stk2.length : Nat) : Int) by omega]
                          refine G_goto (tgt := 345) dX12_reads_340 (by decide) ?_
                          rw [show ((if (i : Int) + 1 < h 81 27 then h 104 (i + 1) else -1) - 48).toNat - 1 = (h 104 (i + 1) - 49).toNat by omega] at om2
                          have pu := (ps.step.pop om2 fr2 (o_rep_len _ _ ps.2.1.2.1).2)
                          have iu := pu.2.2.2.2.2.2
                          have su := pu.1
                          have du := pu.2.2.1
                          refine G_aload_n (i := 0) dX12_reads_345 rfl rfl ?_
                          refine G_getR fX12_114 rfl dX12_reads_346 (o81 hT) (r81_34 hT) ?_
                          refine G_iload_n (i := 1) dX12_reads_349 rfl rfl ?_
                          refine G_dup2 dX12_reads_350 ?_
                          refine G_iald (v := g2 106 stk2.length) dX12_reads_351 (o106 hT) (by omega) rfl ?_
                          refine G_iconst dX12_reads_352 ?_
                          refine G_iadd dX12_reads_353 ?_
                          refine G_iastk stk2.length dX12_reads_354 (o106 hT) (by omega) rfl ?_
                          refine G_aload_n (i := 0) dX12_reads_355 rfl rfl ?_
                          refine G_dup dX12_reads_356 ?_
                          refine G_getI (v := g2 81 31) fX12_105 rfl dX12_reads_357 (o81 hT) (hs_na (by decide)) ?_
                          refine G_iconst dX12_reads_360 ?_
                          refine G_iadd dX12_reads_361 ?_
                          refine G_putI fX12_105 dX12_reads_362 (o81 hT) ?_
                          refine G_goto (tgt := 27) dX12_reads_365 (by decide) ?_
                          refine G_lsub (ls' := [some (.inr (some 81)), some (.inl ((stk2.length : Nat) : Int)), none, none]) (LS_same (LS_same (LS_none (LS_none LS_nil)))) ?_
                          have pn := pu.next
                          refine G_mono ?_ (ih _ (i + 2) stk2 true (o_rep (o.1.drop s0) (h 104 (i + 1) - 49).toNat o) (by omega) pn (fr.tr (FRp_31.tr (fr2.p.tr (FRp_106.tr FRp_31)))) (by omega) (OKo.rep _ (fun s hs => okk s (List.mem_of_mem_drop hs)) _ okk))
                          rintro r τ' h' ⟨q1, v, q2, q3⟩
                          refine ⟨q1, v, q2, ?_⟩
                          have eF : (h 81 27).toNat + 1 - i = ((h 81 27).toNat - i) + 1 := by omega
                          show p_res h (p_run _ _ _ _ ((h 81 27).toNat + 1 - i) _ _ _ _) v h'
                          rw [eF, (p_cr (by omega) (by omega) ⟨List.cons_ne_nil _ _, hah1⟩ (by omega)), p_fuel _ ((h 81 27).toNat + 1 - (i + 2)) _ _ _ _ (by omega) (by omega)]
                          exact q3
                · refine G_iinc (ls' := [some (.inr (some 81)), some (.inl (((stk.length : Nat) : Int) + 1)), some (.inl (h 104 i)), none]) dX12_reads_223 (by decide) rfl rfl ?_
                  refine G_aload_n (i := 0) dX12_reads_226 rfl rfl ?_
                  refine G_getR fX12_111 rfl dX12_reads_227 (o81 hT) (r81_33 hT) ?_
                  refine G_iload_n (i := 1) dX12_reads_230 rfl rfl ?_
                  refine G_aload_n (i := 0) dX12_reads_231 rfl rfl ?_
                  refine G_getR fX12_96 rfl dX12_reads_232 (o81 hT) (r81_28 hT) ?_
                  refine G_bipush dX12_reads_235 (by decide) ?_
                  refine G_iald (v := g 102 10) dX12_reads_237 (o102 hT) (by decide) rfl ?_
                  refine G_iastk (stk.length + 1) dX12_reads_238 (o105 hT) (by omega) rfl ?_
                  refine G_aload_n (i := 0) dX12_reads_239 rfl rfl ?_
                  refine G_getR fX12_114 rfl dX12_reads_240 (o81 hT) (r81_34 hT) ?_
                  refine G_iload_n (i := 1) dX12_reads_243 rfl rfl ?_
                  refine G_iconst dX12_reads_244 ?_
                  refine G_iastk (stk.length + 1) dX12_reads_245 (o106 hT) (by omega) rfl ?_
                  refine G_goto (tgt := 345) dX12_reads_246 (by decide) ?_
                  have pu := (ps.opn (by omega))
                  have iu := pu.2.2.2.2.2.2
                  have su := pu.1
                  have du := pu.2.2.1
                  refine G_aload_n (i := 0) dX12_reads_345 rfl rfl ?_
                  refine G_getR fX12_114 rfl dX12_reads_346 (o81 hT) (r81_34 hT) ?_
                  refine G_iload_n (i := 1) dX12_reads_349 rfl rfl ?_
                  refine G_dup2 dX12_reads_350 ?_
                  refine G_iald (v := (-1)) dX12_reads_351 (o106 hT) (by omega) (hs_eq) ?_
                  refine G_iconst dX12_reads_352 ?_
                  refine G_iadd dX12_reads_353 ?_
                  refine G_iastk (stk.length + 1) dX12_reads_354 (o106 hT) (by omega) rfl ?_
                  refine G_aload_n (i := 0) dX12_reads_355 rfl rfl ?_
                  refine G_dup dX12_reads_356 ?_
                  refine G_getI (v := g 81 31) fX12_105 rfl dX12_reads_357 (o81 hT) ((hs_na (by decide)).trans ((hs_na (by decide)).trans (hs_na (by decide)))) ?_
                  refine G_iconst dX12_reads_360 ?_
                  refine G_iadd dX12_reads_361 ?_
                  refine G_putI fX12_105 dX12_reads_362 (o81 hT) ?_
                  refine G_goto (tgt := 27) dX12_reads_365 (by decide) ?_
                  refine G_lsub (ls' := [some (.inr (some 81)), some (.inl (((o.1.length :: stk).length : Nat) : Int)), none, none]) (LS_same (LS_same (LS_none (LS_none LS_nil)))) ?_
                  have pn := pu.next
                  simp only [List.length_cons] at pn
                  rw [show hs_ (hs_ g 105 (stk.length + 1) (g 102 10)) 106 (stk.length + 1) (-1) 106 (stk.length + 1) = -1 from hs_eq, show hs_ (hs_ g 105 (stk.length + 1) (g 102 10)) 106 (stk.length + 1) (-1) 81 31 = g 81 31 from (hs_na (by decide)).trans (hs_na (by decide))] at pn
                  refine G_mono ?_ (ih _ (i + 1) (o.1.length :: stk) false o (by omega) pn (fr.tr (FRp_105.tr (FRp_106.tr (FRp_106.tr FRp_31)))) (by omega) okk)
                  rintro r τ' h' ⟨q1, v, q2, q3⟩
                  refine ⟨q1, v, q2, ?_⟩
                  have eF : (h 81 27).toNat + 1 - i = ((h 81 27).toNat - i) + 1 := by omega
                  show p_res h (p_run _ _ _ _ ((h 81 27).toNat + 1 - i) _ _ _ _) v h'
                  rw [eF, (p_op (by omega) (by omega)), p_fuel _ ((h 81 27).toNat + 1 - (i + 1)) _ _ _ _ (by omega) (by omega)]
                  exact q3
            · refine G_aload_n (i := 0) dX12_reads_158 rfl rfl ?_
              refine G_iload_n (i := 2) dX12_reads_159 rfl rfl ?_
              refine G_bipush dX12_reads_160 (by decide) ?_
              refine G_isub dX12_reads_162 ?_
              refine G_cVq (as := [.inl ((h 104 i) - 65)]) qX12_244 (m_isFigure d τ g hT ((h 104 i) - 65) (by omega) (by rw [e26]; exact x.f_)) rfl rfl (Nat.le_of_ble_eq_true rfl) (o81 hT) dX12_reads_163 ?_
              refine G_ifb_eq (tgt := 212) dX12_reads_166 (by decide) (fun c_20 => ?_) (fun c_20 => ?_)
              · refine G_iload_n (i := 2) dX12_reads_212 rfl rfl ?_
                refine G_bipush dX12_reads_213 (by decide) ?_
                refine G_icmp_ne (tgt := 249) dX12_reads_215 (by decide) (by omega) (by decide) (fun c_21 => ?_) (fun c_21 => ?_)
                · refine G_iload_n (i := 2) dX12_reads_249 rfl rfl ?_
                  refine G_bipush dX12_reads_250 (by decide) ?_
                  refine G_icmp_ne (tgt := 343) dX12_reads_252 (by decide) (by omega) (by decide) (fun c_22 => ?_) (fun c_22 => ?_)
                  · refine G_iconst dX12_reads_343 ?_
                    refine G_zretZ rfl (by decide) dX12_reads_344 ?_
                    have eF : (h 81 27).toNat + 1 - i = ((h 81 27).toNat - i) + 1 := by omega
                    show p_res h (p_run _ _ _ _ ((h 81 27).toNat + 1 - i) _ _ _ _) _ _
                    rw [eF, p_bad (by omega) (by omega) (by omega) (by omega) (by omega) (by rintro ⟨z1, z2, z3⟩; first | omega | exact z2 (List.length_eq_zero_iff.mp (by omega)) | (have := hah.mpr z3; omega))]
                    exact ⟨fun q => absurd q (by omega), fun _ => ⟨rfl, by omega⟩, ps.2.1, fr⟩
                  · refine G_iload_n (i := 1) dX12_reads_255 rfl rfl ?_
                    refine G_if_le (tgt := 343) dX12_reads_256 (by decide) (by omega) (fun c_23 => ?_) (fun c_23 => ?_)
                    · refine G_iconst dX12_reads_343 ?_
                      refine G_zretZ rfl (by decide) dX12_reads_344 ?_
                      have eF : (h 81 27).toNat + 1 - i = ((h 81 27).toNat - i) + 1 := by omega
                      show p_res h (p_run _ _ _ _ ((h 81 27).toNat + 1 - i) _ _ _ _) _ _
                      rw [eF, p_bad (by omega) (by omega) (by omega) (by omega) (by omega) (by rintro ⟨z1, z2, z3⟩; first | omega | exact z2 (List.length_eq_zero_iff.mp (by omega)) | (have := hah.mpr z3; omega))]
                      exact ⟨fun q => absurd q (by omega), fun _ => ⟨rfl, by omega⟩, ps.2.1, fr⟩
                    · refine G_aload_n (i := 0) dX12_reads_259 rfl rfl ?_
                      obtain ⟨s0, stk2, rfl⟩ : ∃ s t, stk = s :: t := by rcases stk with _ | ⟨s, t⟩; exact absurd (Int.le_refl 0) c_23; exact ⟨s, t, rfl⟩
                      simp only [List.length_cons] at hah it0 hdep ⊢
                      refine G_getR fX12_114 rfl dX12_reads_260 (o81 hT) (r81_34 hT) ?_
                      refine G_iload_n (i := 1) dX12_reads_263 rfl rfl ?_
                      refine G_iald (v := g 106 (stk2.length + 1)) dX12_reads_264 (o106 hT) (by omega) rfl ?_
                      refine G_if_le (tgt := 343) dX12_reads_265 (by decide) (by omega) (fun c_24 => ?_) (fun c_24 => ?_)
                      · refine G_iconst dX12_reads_343 ?_
                        refine G_zretZ rfl (by decide) dX12_reads_344 ?_
                        have eF : (h 81 27).toNat + 1 - i = ((h 81 27).toNat - i) + 1 := by omega
                        show p_res h (p_run _ _ _ _ ((h 81 27).toNat + 1 - i) _ _ _ _) _ _
                        rw [eF, p_bad (by omega) (by omega) (by omega) (by omega) (by omega) (by rintro ⟨z1, z2, z3⟩; first | omega | exact z2 (List.length_eq_zero_iff.mp (by omega)) | (have := hah.mpr z3; omega))]
                        exact ⟨fun q => absurd q (by omega), fun _ => ⟨rfl, by omega⟩, ps.2.1, fr⟩
                      · refine G_aload_n (i := 0) dX12_reads_268 rfl rfl ?_
                        have hah1 : ah = true := hah.mp (by omega)
                        refine G_dup dX12_reads_269 ?_
                        refine G_getI (v := g 81 31) fX12_105 rfl dX12_reads_270 (o81 hT) rfl ?_
                        refine G_iconst dX12_reads_273 ?_
                        refine G_iadd dX12_reads_274 ?_
                        refine G_putI fX12_105 dX12_reads_275 (o81 hT) ?_
                        refine G_aload_n (i := 0) dX12_reads_278 rfl rfl ?_
                        refine G_aload_n (i := 0) dX12_reads_279 rfl rfl ?_
                        refine G_cVq (as := []) qX12_241 (S_eq (m_next (d + 1) τ (hs_ g 81 31 ((g 81 31) + 1)) hT (by rw [hs_eq]; omega) (by rw [hs_ni (by decide)]; omega)) ((nx2 hsp).trans (by rw [e27, et]))) rfl rfl (Nat.le_of_ble_eq_true rfl) (o81 hT) dX12_reads_280 ?_
                        have tb2 : -128 ≤ (if (i : Int) + 1 < h 81 27 then h 104 (i + 1) else -1) ∧ (if (i : Int) + 1 < h 81 27 then h 104 (i + 1) else -1) ≤ 127 := by split; exact x.tx_ (i + 1) (by omega); omega
                        refine G_bipush dX12_reads_283 (by decide) ?_
                        refine G_bipush dX12_reads_285 (by decide) ?_
                        refine G_cVq (as := [.inl (if (i : Int) + 1 < h 81 27 then h 104 (i + 1) else -1), .inl 50, .inl 57]) qX12_195 (m_in (d + 1) τ _ 81 (if (i : Int) + 1 < h 81 27 then h 104 (i + 1) else -1) 50 57 (by omega) (by decide) (by decide)) rfl rfl (Nat.le_of_ble_eq_true rfl) (o81 hT) dX12_reads_287 ?_
                        refine G_ifb_eq (tgt := 313) dX12_reads_290 (by decide) (fun c_25 => ?_) (fun c_25 => ?_)
                        · refine G_aload_n (i := 0) dX12_reads_313 rfl rfl ?_
                          refine G_cVq (as := []) qX12_241 (S_eq (m_next (d + 1) τ (hs_ g 81 31 ((g 81 31) + 1)) hT (by rw [hs_eq]; omega) (by rw [hs_ni (by decide)]; omega)) ((nx2 hsp).trans (by rw [e27, et]))) rfl rfl (Nat.le_of_ble_eq_true rfl) (o81 hT) dX12_reads_314 ?_
                          refine G_bipush dX12_reads_317 (by decide) ?_
                          refine G_icmp_ne (tgt := 335) dX12_reads_319 (by decide) (by omega) (by decide) (fun c_26 => ?_) (fun c_26 => ?_)
                          · refine G_iconst dX12_reads_335 ?_
                            refine G_zretZ rfl (by decide) dX12_reads_336 ?_
                            have eF : (h 81 27).toNat + 1 - i = ((h 81 27).toNat - i) + 1 := by omega
                            show p_res h (p_run _ _ _ _ ((h 81 27).toNat + 1 - i) _ _ _ _) _ _
                            rw [eF, p_cF (by omega) (by omega) ⟨List.cons_ne_nil _ _, hah1⟩ (by omega) (by omega)]
                            exact ⟨fun q => absurd q (by omega), fun _ => ⟨rfl, by rw [hs_eq]; omega⟩, ps.step.2.1, fr.tr FRp_31⟩
                          · refine G_aload_n (i := 0) dX12_reads_322 rfl rfl ?_
                            refine G_aload_n (i := 0) dX12_reads_323 rfl rfl ?_
                            refine G_getR fX12_111 rfl dX12_reads_324 (o81 hT) (r81_33 hT) ?_
                            refine G_iload_n (i := 1) dX12_reads_327 rfl rfl ?_
                            refine G_iald (v := (s0 : Int)) dX12_reads_328 (o105 hT) (by omega) ((hs_na (by decide)).trans (ps.top.1)) ?_
                            refine G_cVv (as := [.inl (s0 : Int)]) qX12_251 (m_undo' d τ (hs_ g 81 31 ((g 81 31) + 1)) hT o (s0 : Int) s0 ps.step.2.1 ps.top.2 okk rfl) rfl rfl (Nat.le_of_ble_eq_true rfl) (o81 hT) dX12_reads_329 (fun g2 e2 => ?_)
                            obtain ⟨om2, fr2⟩ := e2
                            refine G_goto (tgt := 337) dX12_reads_332 (by decide) ?_
                            refine G_iinc (ls' := [some (.inr (some 81)), some (.inl ((((stk2.length + 1) : Nat) : Int) + (-1))), some (.inl (h 104 i)), none]) dX12_reads_337 (by decide) rfl rfl ?_
                            rw [show ((stk2.length + 1 : Nat) : Int) + (-1) = ((stk2.length : Nat) : Int) by omega]
                            refine G_goto (tgt := 345) dX12_reads_340 (by decide) ?_
                            have pu := (ps.step.pop om2 fr2 (by rw [o_und_len _ _ ps.top.2]; exact Nat.le_refl _))
                            have iu := pu.2.2.2.2.2.2
                            have su := pu.1
                            have du := pu.2.2.1
                            refine G_aload_n (i := 0) dX12_reads_345 rfl rfl ?_
                            refine G_getR fX12_114 rfl dX12_reads_346 (o81 hT) (r81_34 hT) ?_
                            refine G_iload_n (i := 1) dX12_reads_349 rfl rfl ?_
                            refine G_dup2 dX12_reads_350 ?_
                            refine G_iald (v := g2 106 stk2.length) dX12_reads_351 (o106 hT) (by omega) rfl ?_
                            refine G_iconst dX12_reads_352 ?_
                            refine G_iadd dX12_reads_353 ?_
                            refine G_iastk stk2.length dX12_reads_354 (o106 hT) (by omega) rfl ?_
                            refine G_aload_n (i := 0) dX12_reads_355 rfl rfl ?_
                            refine G_dup dX12_reads_356 ?_
                            refine G_getI (v := g2 81 31) fX12_105 rfl dX12_reads_357 (o81 hT) (hs_na (by decide)) ?_
                            refine G_iconst dX12_reads_360 ?_
                            refine G_iadd dX12_reads_361 ?_
                            refine G_putI fX12_105 dX12_reads_362 (o81 hT) ?_
                            refine G_goto (tgt := 27) dX12_reads_365 (by decide) ?_
                            refine G_lsub (ls' := [some (.inr (some 81)), some (.inl ((stk2.length : Nat) : Int)), none, none]) (LS_same (LS_same (LS_none (LS_none LS_nil)))) ?_
                            have pn := pu.next
                            refine G_mono ?_ (ih _ (i + 2) stk2 true (o_und o.1 s0, o.2) (by omega) pn (fr.tr (FRp_31.tr (fr2.p.tr (FRp_106.tr FRp_31)))) (by omega) okk.und)
                            rintro r τ' h' ⟨q1, v, q2, q3⟩
                            refine ⟨q1, v, q2, ?_⟩
                            have eF : (h 81 27).toNat + 1 - i = ((h 81 27).toNat - i) + 1 := by omega
                            show p_res h (p_run _ _ _ _ ((h 81 27).toNat + 1 - i) _ _ _ _) v h'
                            rw [eF, (p_cu (by omega) (by omega) ⟨List.cons_ne_nil _ _, hah1⟩ (by omega)), p_fuel _ ((h 81 27).toNat + 1 - (i + 2)) _ _ _ _ (by omega) (by omega)]
                            exact q3
                        · refine G_aload_n (i := 0) dX12_reads_293 rfl rfl ?_
                          refine G_aload_n (i := 0) dX12_reads_294 rfl rfl ?_
                          refine G_getR fX12_111 rfl dX12_reads_295 (o81 hT) (r81_33 hT) ?_
                          refine G_iload_n (i := 1) dX12_reads_298 rfl rfl ?_
                          refine G_iald (v := (s0 : Int)) dX12_reads_299 (o105 hT) (by omega) ((hs_na (by decide)).trans (ps.top.1)) ?_
                          refine G_aload_n (i := 0) dX12_reads_300 rfl rfl ?_
                          refine G_cVq (as := []) qX12_241 (S_eq (m_next (d + 1) τ (hs_ g 81 31 ((g 81 31) + 1)) hT (by rw [hs_eq]; omega) (by rw [hs_ni (by decide)]; omega)) ((nx2 hsp).trans (by rw [e27, et]))) rfl rfl (Nat.le_of_ble_eq_true rfl) (o81 hT) dX12_reads_301 ?_
                          refine G_bipush dX12_reads_304 (by decide) ?_
                          refine G_isub dX12_reads_306 ?_
                          refine G_cVv (as := [.inl (s0 : Int), .inl ((if (i : Int) + 1 < h 81 27 then h 104 (i + 1) else -1) - 48)]) qX12_247 (m_repeat' d τ (hs_ g 81 31 ((g 81 31) + 1)) hT o (s0 : Int) ((if (i : Int) + 1 < h 81 27 then h 104 (i + 1) else -1) - 48) s0 ((if (i : Int) + 1 < h 81 27 then h 104 (i + 1) else -1) - 48).toNat ps.step.2.1 ps.top.2 (by omega) rfl (by omega)) rfl rfl (Nat.le_of_ble_eq_true rfl) (o81 hT) dX12_reads_307 (fun g2 e2 => ?_)
                          obtain ⟨om2, fr2⟩ := e2
                          refine G_goto (tgt := 337) dX12_reads_310 (by decide) ?_
                          refine G_iinc (ls' := [some (.inr (some 81)), some (.inl ((((stk2.length + 1) : Nat) : Int) + (-1))), some (.inl (h 104 i)), none]) dX12_reads_337 (by decide) rfl rfl ?_
                          rw [show ((stk2.length + 1 : Nat) : Int) + (-1) = ((stk2.length : Nat) : Int) by omega]
                          refine G_goto (tgt := 345) dX12_reads_340 (by decide) ?_
                          rw [show ((if (i : Int) + 1 < h 81 27 then h 104 (i + 1) else -1) - 48).toNat - 1 = (h 104 (i + 1) - 49).toNat by omega] at om2
                          have pu := (ps.step.pop om2 fr2 (o_rep_len _ _ ps.2.1.2.1).2)
                          have iu := pu.2.2.2.2.2.2
                          have su := pu.1
                          have du := pu.2.2.1
                          refine G_aload_n (i := 0) dX12_reads_345 rfl rfl ?_
                          refine G_getR fX12_114 rfl dX12_reads_346 (o81 hT) (r81_34 hT) ?_
                          refine G_iload_n (i := 1) dX12_reads_349 rfl rfl ?_
                          refine G_dup2 dX12_reads_350 ?_
                          refine G_iald (v := g2 106 stk2.length) dX12_reads_351 (o106 hT) (by omega) rfl ?_
                          refine G_iconst dX12_reads_352 ?_
                          refine G_iadd dX12_reads_353 ?_
                          refine G_iastk stk2.length dX12_reads_354 (o106 hT) (by omega) rfl ?_
                          refine G_aload_n (i := 0) dX12_reads_355 rfl rfl ?_
                          refine G_dup dX12_reads_356 ?_
                          refine G_getI (v := g2 81 31) fX12_105 rfl dX12_reads_357 (o81 hT) (hs_na (by decide)) ?_
                          refine G_iconst dX12_reads_360 ?_
                          refine G_iadd dX12_reads_361 ?_
                          refine G_putI fX12_105 dX12_reads_362 (o81 hT) ?_
                          refine G_goto (tgt := 27) dX12_reads_365 (by decide) ?_
                          refine G_lsub (ls' := [some (.inr (some 81)), some (.inl ((stk2.length : Nat) : Int)), none, none]) (LS_same (LS_same (LS_none (LS_none LS_nil)))) ?_
                          have pn := pu.next
                          refine G_mono ?_ (ih _ (i + 2) stk2 true (o_rep (o.1.drop s0) (h 104 (i + 1) - 49).toNat o) (by omega) pn (fr.tr (FRp_31.tr (fr2.p.tr (FRp_106.tr FRp_31)))) (by omega) (OKo.rep _ (fun s hs => okk s (List.mem_of_mem_drop hs)) _ okk))
                          rintro r τ' h' ⟨q1, v, q2, q3⟩
                          refine ⟨q1, v, q2, ?_⟩
                          have eF : (h 81 27).toNat + 1 - i = ((h 81 27).toNat - i) + 1 := by omega
                          show p_res h (p_run _ _ _ _ ((h 81 27).toNat + 1 - i) _ _ _ _) v h'
                          rw [eF, (p_cr (by omega) (by omega) ⟨List.cons_ne_nil _ _, hah1⟩ (by omega)), p_fuel _ ((h 81 27).toNat + 1 - (i + 2)) _ _ _ _ (by omega) (by omega)]
                          exact q3
                · refine G_iload_n (i := 1) dX12_reads_218 rfl rfl ?_
                  refine G_iconst dX12_reads_219 ?_
                  refine G_icmp_ge (tgt := 249) dX12_reads_220 (by decide) (by omega) (by decide) (fun c_27 => ?_) (fun c_27 => ?_)
                  · refine G_iload_n (i := 2) dX12_reads_249 rfl rfl ?_
                    refine G_bipush dX12_reads_250 (by decide) ?_
                    refine G_icmp_ne (tgt := 343) dX12_reads_252 (by decide) (by omega) (by decide) (fun c_28 => ?_) (fun c_28 => ?_)
                    · refine G_iconst dX12_reads_343 ?_
                      refine G_zretZ rfl (by decide) dX12_reads_344 ?_
                      have eF : (h 81 27).toNat + 1 - i = ((h 81 27).toNat - i) + 1 := by omega
                      show p_res h (p_run _ _ _ _ ((h 81 27).toNat + 1 - i) _ _ _ _) _ _
                      rw [eF, p_bad (by omega) (by omega) (by omega) (by omega) (by omega) (by rintro ⟨z1, z2, z3⟩; first | omega | exact z2 (List.length_eq_zero_iff.mp (by omega)) | (have := hah.mpr z3; omega))]
                      exact ⟨fun q => absurd q (by omega), fun _ => ⟨rfl, by omega⟩, ps.2.1, fr⟩
                    · refine G_iload_n (i := 1) dX12_reads_255 rfl rfl ?_
                      refine G_if_le (tgt := 343) dX12_reads_256 (by decide) (by omega) (fun c_29 => ?_) (fun c_29 => ?_)
                      · refine G_iconst dX12_reads_343 ?_
                        refine G_zretZ rfl (by decide) dX12_reads_344 ?_
                        have eF : (h 81 27).toNat + 1 - i = ((h 81 27).toNat - i) + 1 := by omega
                        show p_res h (p_run _ _ _ _ ((h 81 27).toNat + 1 - i) _ _ _ _) _ _
                        rw [eF, p_bad (by omega) (by omega) (by omega) (by omega) (by omega) (by rintro ⟨z1, z2, z3⟩; first | omega | exact z2 (List.length_eq_zero_iff.mp (by omega)) | (have := hah.mpr z3; omega))]
                        exact ⟨fun q => absurd q (by omega), fun _ => ⟨rfl, by omega⟩, ps.2.1, fr⟩
                      · refine G_aload_n (i := 0) dX12_reads_259 rfl rfl ?_
                        obtain ⟨s0, stk2, rfl⟩ : ∃ s t, stk = s :: t := by rcases stk with _ | ⟨s, t⟩; exact absurd (Int.le_refl 0) c_29; exact ⟨s, t, rfl⟩
                        simp only [List.length_cons] at hah it0 hdep ⊢
                        refine G_getR fX12_114 rfl dX12_reads_260 (o81 hT) (r81_34 hT) ?_
                        refine G_iload_n (i := 1) dX12_reads_263 rfl rfl ?_
                        refine G_iald (v := g 106 (stk2.length + 1)) dX12_reads_264 (o106 hT) (by omega) rfl ?_
                        refine G_if_le (tgt := 343) dX12_reads_265 (by decide) (by omega) (fun c_30 => ?_) (fun c_30 => ?_)
                        · refine G_iconst dX12_reads_343 ?_
                          refine G_zretZ rfl (by decide) dX12_reads_344 ?_
                          have eF : (h 81 27).toNat + 1 - i = ((h 81 27).toNat - i) + 1 := by omega
                          show p_res h (p_run _ _ _ _ ((h 81 27).toNat + 1 - i) _ _ _ _) _ _
                          rw [eF, p_bad (by omega) (by omega) (by omega) (by omega) (by omega) (by rintro ⟨z1, z2, z3⟩; first | omega | exact z2 (List.length_eq_zero_iff.mp (by omega)) | (have := hah.mpr z3; omega))]
                          exact ⟨fun q => absurd q (by omega), fun _ => ⟨rfl, by omega⟩, ps.2.1, fr⟩
                        · refine G_aload_n (i := 0) dX12_reads_268 rfl rfl ?_
                          have hah1 : ah = true := hah.mp (by omega)
                          refine G_dup dX12_reads_269 ?_
                          refine G_getI (v := g 81 31) fX12_105 rfl dX12_reads_270 (o81 hT) rfl ?_
                          refine G_iconst dX12_reads_273 ?_
                          refine G_iadd dX12_reads_274 ?_
                          refine G_putI fX12_105 dX12_reads_275 (o81 hT) ?_
                          refine G_aload_n (i := 0) dX12_reads_278 rfl rfl ?_
                          refine G_aload_n (i := 0) dX12_reads_279 rfl rfl ?_
                          refine G_cVq (as := []) qX12_241 (S_eq (m_next (d + 1) τ (hs_ g 81 31 ((g 81 31) + 1)) hT (by rw [hs_eq]; omega) (by rw [hs_ni (by decide)]; omega)) ((nx2 hsp).trans (by rw [e27, et]))) rfl rfl (Nat.le_of_ble_eq_true rfl) (o81 hT) dX12_reads_280 ?_
                          have tb2 : -128 ≤ (if (i : Int) + 1 < h 81 27 then h 104 (i + 1) else -1) ∧ (if (i : Int) + 1 < h 81 27 then h 104 (i + 1) else -1) ≤ 127 := by split; exact x.tx_ (i + 1) (by omega); omega
                          refine G_bipush dX12_reads_283 (by decide) ?_
                          refine G_bipush dX12_reads_285 (by decide) ?_
                          refine G_cVq (as := [.inl (if (i : Int) + 1 < h 81 27 then h 104 (i + 1) else -1), .inl 50, .inl 57]) qX12_195 (m_in (d + 1) τ _ 81 (if (i : Int) + 1 < h 81 27 then h 104 (i + 1) else -1) 50 57 (by omega) (by decide) (by decide)) rfl rfl (Nat.le_of_ble_eq_true rfl) (o81 hT) dX12_reads_287 ?_
                          refine G_ifb_eq (tgt := 313) dX12_reads_290 (by decide) (fun c_31 => ?_) (fun c_31 => ?_)
                          · refine G_aload_n (i := 0) dX12_reads_313 rfl rfl ?_
                            refine G_cVq (as := []) qX12_241 (S_eq (m_next (d + 1) τ (hs_ g 81 31 ((g 81 31) + 1)) hT (by rw [hs_eq]; omega) (by rw [hs_ni (by decide)]; omega)) ((nx2 hsp).trans (by rw [e27, et]))) rfl rfl (Nat.le_of_ble_eq_true rfl) (o81 hT) dX12_reads_314 ?_
                            refine G_bipush dX12_reads_317 (by decide) ?_
                            refine G_icmp_ne (tgt := 335) dX12_reads_319 (by decide) (by omega) (by decide) (fun c_32 => ?_) (fun c_32 => ?_)
                            · refine G_iconst dX12_reads_335 ?_
                              refine G_zretZ rfl (by decide) dX12_reads_336 ?_
                              have eF : (h 81 27).toNat + 1 - i = ((h 81 27).toNat - i) + 1 := by omega
                              show p_res h (p_run _ _ _ _ ((h 81 27).toNat + 1 - i) _ _ _ _) _ _
                              rw [eF, p_cF (by omega) (by omega) ⟨List.cons_ne_nil _ _, hah1⟩ (by omega) (by omega)]
                              exact ⟨fun q => absurd q (by omega), fun _ => ⟨rfl, by rw [hs_eq]; omega⟩, ps.step.2.1, fr.tr FRp_31⟩
                            · refine G_aload_n (i := 0) dX12_reads_322 rfl rfl ?_
                              refine G_aload_n (i := 0) dX12_reads_323 rfl rfl ?_
                              refine G_getR fX12_111 rfl dX12_reads_324 (o81 hT) (r81_33 hT) ?_
                              refine G_iload_n (i := 1) dX12_reads_327 rfl rfl ?_
                              refine G_iald (v := (s0 : Int)) dX12_reads_328 (o105 hT) (by omega) ((hs_na (by decide)).trans (ps.top.1)) ?_
                              refine G_cVv (as := [.inl (s0 : Int)]) qX12_251 (m_undo' d τ (hs_ g 81 31 ((g 81 31) + 1)) hT o (s0 : Int) s0 ps.step.2.1 ps.top.2 okk rfl) rfl rfl (Nat.le_of_ble_eq_true rfl) (o81 hT) dX12_reads_329 (fun g2 e2 => ?_)
                              obtain ⟨om2, fr2⟩ := e2
                              refine G_goto (tgt := 337) dX12_reads_332 (by decide) ?_
                              refine G_iinc (ls' := [some (.inr (some 81)), some (.inl ((((stk2.length + 1) : Nat) : Int) + (-1))), some (.inl (h 104 i)), none]) dX12_reads_337 (by decide) rfl rfl ?_
                              rw [show ((stk2.length + 1 : Nat) : Int) + (-1) = ((stk2.length : Nat) : Int) by omega]
                              refine G_goto (tgt := 345) dX12_reads_340 (by decide) ?_
                              have pu := (ps.step.pop om2 fr2 (by rw [o_und_len _ _ ps.top.2]; exact Nat.le_refl _))
                              have iu := pu.2.2.2.2.2.2
                              have su := pu.1
                              have du := pu.2.2.1
                              refine G_aload_n (i := 0) dX12_reads_345 rfl rfl ?_
                              refine G_getR fX12_114 rfl dX12_reads_346 (o81 hT) (r81_34 hT) ?_
                              refine G_iload_n (i := 1) dX12_reads_349 rfl rfl ?_
                              refine G_dup2 dX12_reads_350 ?_
                              refine G_iald (v := g2 106 stk2.length) dX12_reads_351 (o106 hT) (by omega) rfl ?_
                              refine G_iconst dX12_reads_352 ?_
                              refine G_iadd dX12_reads_353 ?_
                              refine G_iastk stk2.length dX12_reads_354 (o106 hT) (by omega) rfl ?_
                              refine G_aload_n (i := 0) dX12_reads_355 rfl rfl ?_
                              refine G_dup dX12_reads_356 ?_
                              refine G_getI (v := g2 81 31) fX12_105 rfl dX12_reads_357 (o81 hT) (hs_na (by decide)) ?_
                              refine G_iconst dX12_reads_360 ?_
                              refine G_iadd dX12_reads_361 ?_
                              refine G_putI fX12_105 dX12_reads_362 (o81 hT) ?_
                              refine G_goto (tgt := 27) dX12_reads_365 (by decide) ?_
                              refine G_lsub (ls' := [some (.inr (some 81)), some (.inl ((stk2.length : Nat) : Int)), none, none]) (LS_same (LS_same (LS_none (LS_none LS_nil)))) ?_
                              have pn := pu.next
                              refine G_mono ?_ (ih _ (i + 2) stk2 true (o_und o.1 s0, o.2) (by omega) pn (fr.tr (FRp_31.tr (fr2.p.tr (FRp_106.tr FRp_31)))) (by omega) okk.und)
                              rintro r τ' h' ⟨q1, v, q2, q3⟩
                              refine ⟨q1, v, q2, ?_⟩
                              have eF : (h 81 27).toNat + 1 - i = ((h 81 27).toNat - i) + 1 := by omega
                              show p_res h (p_run _ _ _ _ ((h 81 27).toNat + 1 - i) _ _ _ _) v h'
                              rw [eF, (p_cu (by omega) (by omega) ⟨List.cons_ne_nil _ _, hah1⟩ (by omega)), p_fuel _ ((h 81 27).toNat + 1 - (i + 2)) _ _ _ _ (by omega) (by omega)]
                              exact q3
                          · refine G_aload_n (i := 0) dX12_reads_293 rfl rfl ?_
                            refine G_aload_n (i := 0) dX12_reads_294 rfl rfl ?_
                            refine G_getR fX12_111 rfl dX12_reads_295 (o81 hT) (r81_33 hT) ?_
                            refine G_iload_n (i := 1) dX12_reads_298 rfl rfl ?_
                            refine G_iald (v := (s0 : Int)) dX12_reads_299 (o105 hT) (by omega) ((hs_na (by decide)).trans (ps.top.1)) ?_
                            refine G_aload_n (i := 0) dX12_reads_300 rfl rfl ?_
                            refine G_cVq (as := []) qX12_241 (S_eq (m_next (d + 1) τ (hs_ g 81 31 ((g 81 31) + 1)) hT (by rw [hs_eq]; omega) (by rw [hs_ni (by decide)]; omega)) ((nx2 hsp).trans (by rw [e27, et]))) rfl rfl (Nat.le_of_ble_eq_true rfl) (o81 hT) dX12_reads_301 ?_
                            refine G_bipush dX12_reads_304 (by decide) ?_
                            refine G_isub dX12_reads_306 ?_
                            refine G_cVv (as := [.inl (s0 : Int), .inl ((if (i : Int) + 1 < h 81 27 then h 104 (i + 1) else -1) - 48)]) qX12_247 (m_repeat' d τ (hs_ g 81 31 ((g 81 31) + 1)) hT o (s0 : Int) ((if (i : Int) + 1 < h 81 27 then h 104 (i + 1) else -1) - 48) s0 ((if (i : Int) + 1 < h 81 27 then h 104 (i + 1) else -1) - 48).toNat ps.step.2.1 ps.top.2 (by omega) rfl (by omega)) rfl rfl (Nat.le_of_ble_eq_true rfl) (o81 hT) dX12_reads_307 (fun g2 e2 => ?_)
                            obtain ⟨om2, fr2⟩ := e2
                            refine G_goto (tgt := 337) dX12_reads_310 (by decide) ?_
                            refine G_iinc (ls' := [some (.inr (some 81)), some (.inl ((((stk2.length + 1) : Nat) : Int) + (-1))), some (.inl (h 104 i)), none]) dX12_reads_337 (by decide) rfl rfl ?_
                            rw [show ((stk2.length + 1 : Nat) : Int) + (-1) = ((stk2.length : Nat) : Int) by omega]
                            refine G_goto (tgt := 345) dX12_reads_340 (by decide) ?_
                            rw [show ((if (i : Int) + 1 < h 81 27 then h 104 (i + 1) else -1) - 48).toNat - 1 = (h 104 (i + 1) - 49).toNat by omega] at om2
                            have pu := (ps.step.pop om2 fr2 (o_rep_len _ _ ps.2.1.2.1).2)
                            have iu := pu.2.2.2.2.2.2
                            have su := pu.1
                            have du := pu.2.2.1
                            refine G_aload_n (i := 0) dX12_reads_345 rfl rfl ?_
                            refine G_getR fX12_114 rfl dX12_reads_346 (o81 hT) (r81_34 hT) ?_
                            refine G_iload_n (i := 1) dX12_reads_349 rfl rfl ?_
                            refine G_dup2 dX12_reads_350 ?_
                            refine G_iald (v := g2 106 stk2.length) dX12_reads_351 (o106 hT) (by omega) rfl ?_
                            refine G_iconst dX12_reads_352 ?_
                            refine G_iadd dX12_reads_353 ?_
                            refine G_iastk stk2.length dX12_reads_354 (o106 hT) (by omega) rfl ?_
                            refine G_aload_n (i := 0) dX12_reads_355 rfl rfl ?_
                            refine G_dup dX12_reads_356 ?_
                            refine G_getI (v := g2 81 31) fX12_105 rfl dX12_reads_357 (o81 hT) (hs_na (by decide)) ?_
                            refine G_iconst dX12_reads_360 ?_
                            refine G_iadd dX12_reads_361 ?_
                            refine G_putI fX12_105 dX12_reads_362 (o81 hT) ?_
                            refine G_goto (tgt := 27) dX12_reads_365 (by decide) ?_
                            refine G_lsub (ls' := [some (.inr (some 81)), some (.inl ((stk2.length : Nat) : Int)), none, none]) (LS_same (LS_same (LS_none (LS_none LS_nil)))) ?_
                            have pn := pu.next
                            refine G_mono ?_ (ih _ (i + 2) stk2 true (o_rep (o.1.drop s0) (h 104 (i + 1) - 49).toNat o) (by omega) pn (fr.tr (FRp_31.tr (fr2.p.tr (FRp_106.tr FRp_31)))) (by omega) (OKo.rep _ (fun s hs => okk s (List.mem_of_mem_drop hs)) _ okk))
                            rintro r τ' h' ⟨q1, v, q2, q3⟩
                            refine ⟨q1, v, q2, ?_⟩
                            have eF : (h 81 27).toNat + 1 - i = ((h 81 27).toNat - i) + 1 := by omega
                            show p_res h (p_run _ _ _ _ ((h 81 27).toNat + 1 - i) _ _ _ _) v h'
                            rw [eF, (p_cr (by omega) (by omega) ⟨List.cons_ne_nil _ _, hah1⟩ (by omega)), p_fuel _ ((h 81 27).toNat + 1 - (i + 2)) _ _ _ _ (by omega) (by omega)]
                            exact q3
                  · refine G_iinc (ls' := [some (.inr (some 81)), some (.inl (((stk.length : Nat) : Int) + 1)), some (.inl (h 104 i)), none]) dX12_reads_223 (by decide) rfl rfl ?_
                    refine G_aload_n (i := 0) dX12_reads_226 rfl rfl ?_
                    refine G_getR fX12_111 rfl dX12_reads_227 (o81 hT) (r81_33 hT) ?_
                    refine G_iload_n (i := 1) dX12_reads_230 rfl rfl ?_
                    refine G_aload_n (i := 0) dX12_reads_231 rfl rfl ?_
                    refine G_getR fX12_96 rfl dX12_reads_232 (o81 hT) (r81_28 hT) ?_
                    refine G_bipush dX12_reads_235 (by decide) ?_
                    refine G_iald (v := g 102 10) dX12_reads_237 (o102 hT) (by decide) rfl ?_
                    refine G_iastk (stk.length + 1) dX12_reads_238 (o105 hT) (by omega) rfl ?_
                    refine G_aload_n (i := 0) dX12_reads_239 rfl rfl ?_
                    refine G_getR fX12_114 rfl dX12_reads_240 (o81 hT) (r81_34 hT) ?_
                    refine G_iload_n (i := 1) dX12_reads_243 rfl rfl ?_
                    refine G_iconst dX12_reads_244 ?_
                    refine G_iastk (stk.length + 1) dX12_reads_245 (o106 hT) (by omega) rfl ?_
                    refine G_goto (tgt := 345) dX12_reads_246 (by decide) ?_
                    have pu := (ps.opn (by omega))
                    have iu := pu.2.2.2.2.2.2
                    have su := pu.1
                    have du := pu.2.2.1
                    refine G_aload_n (i := 0) dX12_reads_345 rfl rfl ?_
                    refine G_getR fX12_114 rfl dX12_reads_346 (o81 hT) (r81_34 hT) ?_
                    refine G_iload_n (i := 1) dX12_reads_349 rfl rfl ?_
                    refine G_dup2 dX12_reads_350 ?_
                    refine G_iald (v := (-1)) dX12_reads_351 (o106 hT) (by omega) (hs_eq) ?_
                    refine G_iconst dX12_reads_352 ?_
                    refine G_iadd dX12_reads_353 ?_
                    refine G_iastk (stk.length + 1) dX12_reads_354 (o106 hT) (by omega) rfl ?_
                    refine G_aload_n (i := 0) dX12_reads_355 rfl rfl ?_
                    refine G_dup dX12_reads_356 ?_
                    refine G_getI (v := g 81 31) fX12_105 rfl dX12_reads_357 (o81 hT) ((hs_na (by decide)).trans ((hs_na (by decide)).trans (hs_na (by decide)))) ?_
                    refine G_iconst dX12_reads_360 ?_
                    refine G_iadd dX12_reads_361 ?_
                    refine G_putI fX12_105 dX12_reads_362 (o81 hT) ?_
                    refine G_goto (tgt := 27) dX12_reads_365 (by decide) ?_
                    refine G_lsub (ls' := [some (.inr (some 81)), some (.inl (((o.1.length :: stk).length : Nat) : Int)), none, none]) (LS_same (LS_same (LS_none (LS_none LS_nil)))) ?_
                    have pn := pu.next
                    simp only [List.length_cons] at pn
                    rw [show hs_ (hs_ g 105 (stk.length + 1) (g 102 10)) 106 (stk.length + 1) (-1) 106 (stk.length + 1) = -1 from hs_eq, show hs_ (hs_ g 105 (stk.length + 1) (g 102 10)) 106 (stk.length + 1) (-1) 81 31 = g 81 31 from (hs_na (by decide)).trans (hs_na (by decide))] at pn
                    refine G_mono ?_ (ih _ (i + 1) (o.1.length :: stk) false o (by omega) pn (fr.tr (FRp_105.tr (FRp_106.tr (FRp_106.tr FRp_31)))) (by omega) okk)
                    rintro r τ' h' ⟨q1, v, q2, q3⟩
                    refine ⟨q1, v, q2, ?_⟩
                    have eF : (h 81 27).toNat + 1 - i = ((h 81 27).toNat - i) + 1 := by omega
                    show p_res h (p_run _ _ _ _ ((h 81 27).toNat + 1 - i) _ _ _ _) v h'
                    rw [eF, (p_op (by omega) (by omega)), p_fuel _ ((h 81 27).toNat + 1 - (i + 1)) _ _ _ _ (by omega) (by omega)]
                    exact q3
              · refine G_iconst dX12_reads_169 ?_
                refine G_istore_n (i := 3) (ls' := [some (.inr (some 81)), some (.inl ((stk.length : Nat) : Int)), some (.inl (h 104 i)), some (.inl 0)]) dX12_reads_170 rfl (by decide) rfl ?_
                refine m_reads_L3 d τ h hT stk.length (h 104 i - 65).toNat (h 104 i) o _ g x fr (by omega) (by omega) (fun g1 om1 fr1 => ?_) _ g 0 (Nat.lt_succ_self _) (by have := x.ma_ (h 104 i - 65).toNat (by omega); omega) ps.2.1 FRa.rf
                have pu := (ps.u.grow om1 fr1 (o_ads_len _ ps.2.1.2.1).2)
                have iu := pu.2.2.2.2.2.2
                have su := pu.1
                have du := pu.2.2.1
                refine G_aload_n (i := 0) dX12_reads_345 rfl rfl ?_
                refine G_getR fX12_114 rfl dX12_reads_346 (o81 hT) (r81_34 hT) ?_
                refine G_iload_n (i := 1) dX12_reads_349 rfl rfl ?_
                refine G_dup2 dX12_reads_350 ?_
                refine G_iald (v := g1 106 stk.length) dX12_reads_351 (o106 hT) (by omega) rfl ?_
                refine G_iconst dX12_reads_352 ?_
                refine G_iadd dX12_reads_353 ?_
                refine G_iastk stk.length dX12_reads_354 (o106 hT) (by omega) rfl ?_
                refine G_aload_n (i := 0) dX12_reads_355 rfl rfl ?_
                refine G_dup dX12_reads_356 ?_
                refine G_getI (v := g1 81 31) fX12_105 rfl dX12_reads_357 (o81 hT) (hs_na (by decide)) ?_
                refine G_iconst dX12_reads_360 ?_
                refine G_iadd dX12_reads_361 ?_
                refine G_putI fX12_105 dX12_reads_362 (o81 hT) ?_
                refine G_goto (tgt := 27) dX12_reads_365 (by decide) ?_
                refine G_lsub (ls' := [some (.inr (some 81)), some (.inl ((stk.length : Nat) : Int)), none, none]) (LS_same (LS_same (LS_none (LS_none LS_nil)))) ?_
                have pn := pu.next
                refine G_mono ?_ (ih _ (i + 1) stk true (o_ads o (figL h (h 104 i - 65).toNat)) (by omega) pn (fr.tr (fr1.p.tr (FRp_106.tr FRp_31))) (by omega) (okk.ads _ (figL_ok x (by omega))))
                rintro r τ' h' ⟨q1, v, q2, q3⟩
                refine ⟨q1, v, q2, ?_⟩
                have eF : (h 81 27).toNat + 1 - i = ((h 81 27).toNat - i) + 1 := by omega
                show p_res h (p_run _ _ _ _ ((h 81 27).toNat + 1 - i) _ _ _ _) v h'
                rw [eF, (p_fg (by omega) (by omega)), p_fuel _ ((h 81 27).toNat + 1 - (i + 1)) _ _ _ _ (by omega) (by omega)]
                exact q3
          · refine G_aload_n (i := 0) dX12_reads_126 rfl rfl ?_
            refine G_iload_n (i := 2) dX12_reads_127 rfl rfl ?_
            refine G_bipush dX12_reads_128 (by decide) ?_
            refine G_icmp_ne (tgt := 138) dX12_reads_130 (by decide) (by omega) (by decide) (fun _ => ?_) (fun q => absurd q c_5)
            refine G_bipush dX12_reads_138 (by decide) ?_
            refine G_cVv (as := [.inl 101]) qX12_237 (m_add (d + 1) τ g hT o 101 ps.2.1) rfl rfl (Nat.le_of_ble_eq_true rfl) (o81 hT) dX12_reads_140 (fun g2 e2 => ?_)
            obtain ⟨om2, fr2⟩ := e2
            refine G_goto (tgt := 345) dX12_reads_143 (by decide) ?_
            have pu := (ps.u.grow om2 fr2 (o_ad_len ps.2.1.2.1).2)
            have iu := pu.2.2.2.2.2.2
            have su := pu.1
            have du := pu.2.2.1
            refine G_aload_n (i := 0) dX12_reads_345 rfl rfl ?_
            refine G_getR fX12_114 rfl dX12_reads_346 (o81 hT) (r81_34 hT) ?_
            refine G_iload_n (i := 1) dX12_reads_349 rfl rfl ?_
            refine G_dup2 dX12_reads_350 ?_
            refine G_iald (v := g2 106 stk.length) dX12_reads_351 (o106 hT) (by omega) rfl ?_
            refine G_iconst dX12_reads_352 ?_
            refine G_iadd dX12_reads_353 ?_
            refine G_iastk stk.length dX12_reads_354 (o106 hT) (by omega) rfl ?_
            refine G_aload_n (i := 0) dX12_reads_355 rfl rfl ?_
            refine G_dup dX12_reads_356 ?_
            refine G_getI (v := g2 81 31) fX12_105 rfl dX12_reads_357 (o81 hT) (hs_na (by decide)) ?_
            refine G_iconst dX12_reads_360 ?_
            refine G_iadd dX12_reads_361 ?_
            refine G_putI fX12_105 dX12_reads_362 (o81 hT) ?_
            refine G_goto (tgt := 27) dX12_reads_365 (by decide) ?_
            refine G_lsub (ls' := [some (.inr (some 81)), some (.inl ((stk.length : Nat) : Int)), none, none]) (LS_same (LS_same (LS_none (LS_none LS_nil)))) ?_
            have pn := pu.next
            refine G_mono ?_ (ih _ (i + 1) stk true (o_ad o 101) (by omega) pn (fr.tr (fr2.p.tr (FRp_106.tr FRp_31))) (by omega) (okk.ad (Or.inr (Or.inr rfl))))
            rintro r τ' h' ⟨q1, v, q2, q3⟩
            refine ⟨q1, v, q2, ?_⟩
            have eF : (h 81 27).toNat + 1 - i = ((h 81 27).toNat - i) + 1 := by omega
            show p_res h (p_run _ _ _ _ ((h 81 27).toNat + 1 - i) _ _ _ _) v h'
            rw [eF, (p_v (by omega) (by omega)), p_fuel _ ((h 81 27).toNat + 1 - (i + 1)) _ _ _ _ (by omega) (by omega)]
            exact q3
      · refine G_aload_n (i := 0) dX12_reads_55 rfl rfl ?_
        refine G_dup dX12_reads_56 ?_
        refine G_getI (v := g 81 31) fX12_105 rfl dX12_reads_57 (o81 hT) rfl ?_
        refine G_iconst dX12_reads_60 ?_
        refine G_iadd dX12_reads_61 ?_
        refine G_putI fX12_105 dX12_reads_62 (o81 hT) ?_
        refine G_aload_n (i := 0) dX12_reads_65 rfl rfl ?_
        refine G_cVq (as := []) qX12_241 (S_eq (m_next (d + 1) τ (hs_ g 81 31 ((g 81 31) + 1)) hT (by rw [hs_eq]; omega) (by rw [hs_ni (by decide)]; omega)) ((nx2 hsp).trans (by rw [e27, et]))) rfl rfl (Nat.le_of_ble_eq_true rfl) (o81 hT) dX12_reads_66 ?_
        have tb2 : -128 ≤ (if (i : Int) + 1 < h 81 27 then h 104 (i + 1) else -1) ∧ (if (i : Int) + 1 < h 81 27 then h 104 (i + 1) else -1) ≤ 127 := by split; exact x.tx_ (i + 1) (by omega); omega
        refine G_bipush dX12_reads_69 (by decide) ?_
        refine G_icmp_eq (tgt := 85) dX12_reads_71 (by decide) (by omega) (by decide) (fun c_33 => ?_) (fun c_33 => ?_)
        · refine G_aload_n (i := 0) dX12_reads_85 rfl rfl ?_
          refine G_bipush dX12_reads_86 (by decide) ?_
          refine G_iload_n (i := 2) dX12_reads_88 rfl rfl ?_
          refine G_bipush dX12_reads_89 (by decide) ?_
          refine G_isub dX12_reads_91 ?_
          refine G_imul dX12_reads_92 ?_
          refine G_aload_n (i := 0) dX12_reads_93 rfl rfl ?_
          refine G_cVq (as := []) qX12_241 (S_eq (m_next (d + 1) τ (hs_ g 81 31 ((g 81 31) + 1)) hT (by rw [hs_eq]; omega) (by rw [hs_ni (by decide)]; omega)) ((nx2 hsp).trans (by rw [e27, et]))) rfl rfl (Nat.le_of_ble_eq_true rfl) (o81 hT) dX12_reads_94 ?_
          refine G_bipush dX12_reads_97 (by decide) ?_
          refine G_icmp_ne (tgt := 106) dX12_reads_99 (by decide) (by omega) (by decide) (fun q => absurd c_33 q) (fun _ => ?_)
          refine G_iconst dX12_reads_102 ?_
          refine G_goto (tgt := 107) dX12_reads_103 (by decide) ?_
          refine G_iadd dX12_reads_107 ?_
          refine G_cVv (as := [.inl ((10 * ((h 104 i) - 48)) + 0)]) qX12_237 (m_add (d + 1) τ (hs_ g 81 31 ((g 81 31) + 1)) hT o ((10 * ((h 104 i) - 48)) + 0) ps.step.2.1) rfl rfl (Nat.le_of_ble_eq_true rfl) (o81 hT) dX12_reads_108 (fun g2 e2 => ?_)
          obtain ⟨om2, fr2⟩ := e2
          refine G_goto (tgt := 345) dX12_reads_111 (by decide) ?_
          rw [Int.add_zero] at om2
          have pu := (ps.step.u.grow om2 fr2 (o_ad_len ps.2.1.2.1).2)
          have iu := pu.2.2.2.2.2.2
          have su := pu.1
          have du := pu.2.2.1
          refine G_aload_n (i := 0) dX12_reads_345 rfl rfl ?_
          refine G_getR fX12_114 rfl dX12_reads_346 (o81 hT) (r81_34 hT) ?_
          refine G_iload_n (i := 1) dX12_reads_349 rfl rfl ?_
          refine G_dup2 dX12_reads_350 ?_
          refine G_iald (v := g2 106 stk.length) dX12_reads_351 (o106 hT) (by omega) rfl ?_
          refine G_iconst dX12_reads_352 ?_
          refine G_iadd dX12_reads_353 ?_
          refine G_iastk stk.length dX12_reads_354 (o106 hT) (by omega) rfl ?_
          refine G_aload_n (i := 0) dX12_reads_355 rfl rfl ?_
          refine G_dup dX12_reads_356 ?_
          refine G_getI (v := g2 81 31) fX12_105 rfl dX12_reads_357 (o81 hT) (hs_na (by decide)) ?_
          refine G_iconst dX12_reads_360 ?_
          refine G_iadd dX12_reads_361 ?_
          refine G_putI fX12_105 dX12_reads_362 (o81 hT) ?_
          refine G_goto (tgt := 27) dX12_reads_365 (by decide) ?_
          refine G_lsub (ls' := [some (.inr (some 81)), some (.inl ((stk.length : Nat) : Int)), none, none]) (LS_same (LS_same (LS_none (LS_none LS_nil)))) ?_
          have pn := pu.next
          refine G_mono ?_ (ih _ (i + 2) stk true (o_ad o (10 * (h 104 i - 48))) (by omega) pn (fr.tr (FRp_31.tr (fr2.p.tr (FRp_106.tr FRp_31)))) (by omega) (okk.ad (ok_dig (by omega) (by omega))))
          rintro r τ' h' ⟨q1, v, q2, q3⟩
          refine ⟨q1, v, q2, ?_⟩
          have eF : (h 81 27).toNat + 1 - i = ((h 81 27).toNat - i) + 1 := by omega
          show p_res h (p_run _ _ _ _ ((h 81 27).toNat + 1 - i) _ _ _ _) v h'
          rw [eF, (p_d60 (by omega) (by omega) (by omega)), p_fuel _ ((h 81 27).toNat + 1 - (i + 2)) _ _ _ _ (by omega) (by omega)]
          exact q3
        · refine G_aload_n (i := 0) dX12_reads_74 rfl rfl ?_
          refine G_cVq (as := []) qX12_241 (S_eq (m_next (d + 1) τ (hs_ g 81 31 ((g 81 31) + 1)) hT (by rw [hs_eq]; omega) (by rw [hs_ni (by decide)]; omega)) ((nx2 hsp).trans (by rw [e27, et]))) rfl rfl (Nat.le_of_ble_eq_true rfl) (o81 hT) dX12_reads_75 ?_
          refine G_bipush dX12_reads_78 (by decide) ?_
          refine G_icmp_eq (tgt := 85) dX12_reads_80 (by decide) (by omega) (by decide) (fun c_34 => ?_) (fun c_34 => ?_)
          · refine G_aload_n (i := 0) dX12_reads_85 rfl rfl ?_
            refine G_bipush dX12_reads_86 (by decide) ?_
            refine G_iload_n (i := 2) dX12_reads_88 rfl rfl ?_
            refine G_bipush dX12_reads_89 (by decide) ?_
            refine G_isub dX12_reads_91 ?_
            refine G_imul dX12_reads_92 ?_
            refine G_aload_n (i := 0) dX12_reads_93 rfl rfl ?_
            refine G_cVq (as := []) qX12_241 (S_eq (m_next (d + 1) τ (hs_ g 81 31 ((g 81 31) + 1)) hT (by rw [hs_eq]; omega) (by rw [hs_ni (by decide)]; omega)) ((nx2 hsp).trans (by rw [e27, et]))) rfl rfl (Nat.le_of_ble_eq_true rfl) (o81 hT) dX12_reads_94 ?_
            refine G_bipush dX12_reads_97 (by decide) ?_
            refine G_icmp_ne (tgt := 106) dX12_reads_99 (by decide) (by omega) (by decide) (fun _ => ?_) (fun q => absurd q c_33)
            refine G_iconst dX12_reads_106 ?_
            refine G_iadd dX12_reads_107 ?_
            refine G_cVv (as := [.inl ((10 * ((h 104 i) - 48)) + 1)]) qX12_237 (m_add (d + 1) τ (hs_ g 81 31 ((g 81 31) + 1)) hT o ((10 * ((h 104 i) - 48)) + 1) ps.step.2.1) rfl rfl (Nat.le_of_ble_eq_true rfl) (o81 hT) dX12_reads_108 (fun g2 e2 => ?_)
            obtain ⟨om2, fr2⟩ := e2
            refine G_goto (tgt := 345) dX12_reads_111 (by decide) ?_
            have pu := (ps.step.u.grow om2 fr2 (o_ad_len ps.2.1.2.1).2)
            have iu := pu.2.2.2.2.2.2
            have su := pu.1
            have du := pu.2.2.1
            refine G_aload_n (i := 0) dX12_reads_345 rfl rfl ?_
            refine G_getR fX12_114 rfl dX12_reads_346 (o81 hT) (r81_34 hT) ?_
            refine G_iload_n (i := 1) dX12_reads_349 rfl rfl ?_
            refine G_dup2 dX12_reads_350 ?_
            refine G_iald (v := g2 106 stk.length) dX12_reads_351 (o106 hT) (by omega) rfl ?_
            refine G_iconst dX12_reads_352 ?_
            refine G_iadd dX12_reads_353 ?_
            refine G_iastk stk.length dX12_reads_354 (o106 hT) (by omega) rfl ?_
            refine G_aload_n (i := 0) dX12_reads_355 rfl rfl ?_
            refine G_dup dX12_reads_356 ?_
            refine G_getI (v := g2 81 31) fX12_105 rfl dX12_reads_357 (o81 hT) (hs_na (by decide)) ?_
            refine G_iconst dX12_reads_360 ?_
            refine G_iadd dX12_reads_361 ?_
            refine G_putI fX12_105 dX12_reads_362 (o81 hT) ?_
            refine G_goto (tgt := 27) dX12_reads_365 (by decide) ?_
            refine G_lsub (ls' := [some (.inr (some 81)), some (.inl ((stk.length : Nat) : Int)), none, none]) (LS_same (LS_same (LS_none (LS_none LS_nil)))) ?_
            have pn := pu.next
            refine G_mono ?_ (ih _ (i + 2) stk true (o_ad o (10 * (h 104 i - 48) + 1)) (by omega) pn (fr.tr (FRp_31.tr (fr2.p.tr (FRp_106.tr FRp_31)))) (by omega) (okk.ad (ok_dig1 (by omega) (by omega))))
            rintro r τ' h' ⟨q1, v, q2, q3⟩
            refine ⟨q1, v, q2, ?_⟩
            have eF : (h 81 27).toNat + 1 - i = ((h 81 27).toNat - i) + 1 := by omega
            show p_res h (p_run _ _ _ _ ((h 81 27).toNat + 1 - i) _ _ _ _) v h'
            rw [eF, (p_d62 (by omega) (by omega) (by omega)), p_fuel _ ((h 81 27).toNat + 1 - (i + 2)) _ _ _ _ (by omega) (by omega)]
            exact q3
          · refine G_iconst dX12_reads_83 ?_
            refine G_zretZ rfl (by decide) dX12_reads_84 ?_
            have eF : (h 81 27).toNat + 1 - i = ((h 81 27).toNat - i) + 1 := by omega
            show p_res h (p_run _ _ _ _ ((h 81 27).toNat + 1 - i) _ _ _ _) _ _
            rw [eF, p_dF (by omega) (by omega) (by omega) (by omega)]
            exact ⟨fun q => absurd q (by omega), fun _ => ⟨rfl, by rw [hs_eq]; omega⟩, ps.step.2.1, fr.tr FRp_31⟩

theorem m_reads (d : Nat) (τ : TT) (h : HT) (hT : TK τ) (x : MI h) : S_ mX12_reads (d + 2) 0 0 [.inr (some 81)] τ h (Zi τ fun v h' => p_res h (PR h ((h 81 27).toNat + 1) 0 [] false ([], false)) v h') := by
  refine S_go (k := 3) (ls := [some (.inr (some 81)), none, none, none]) (by decide) rfl (Nat.le_of_ble_eq_true rfl) rfl ?_
  refine G_aload_n (i := 0) dX12_reads_0 rfl rfl ?_
  refine G_iconst dX12_reads_1 ?_
  refine G_putI fX12_105 dX12_reads_2 (o81 hT) ?_
  refine G_aload_n (i := 0) dX12_reads_5 rfl rfl ?_
  refine G_getR fX12_96 rfl dX12_reads_6 (o81 hT) (r81_28 hT) ?_
  refine G_bipush dX12_reads_9 (by decide) ?_
  refine G_iconst dX12_reads_11 ?_
  refine G_iastk 10 dX12_reads_12 (o102 hT) (by decide) rfl ?_
  refine G_aload_n (i := 0) dX12_reads_13 rfl rfl ?_
  refine G_iconst dX12_reads_14 ?_
  refine G_putZ fX12_108 (by decide) dX12_reads_15 (o81 hT) ?_
  refine G_iconst dX12_reads_18 ?_
  refine G_istore_n (i := 1) (ls' := [some (.inr (some 81)), some (.inl 0), none, none]) dX12_reads_19 rfl (by decide) rfl ?_
  refine G_aload_n (i := 0) dX12_reads_20 rfl rfl ?_
  refine G_getR fX12_114 rfl dX12_reads_21 (o81 hT) (r81_34 hT) ?_
  refine G_iconst dX12_reads_24 ?_
  refine G_iconst dX12_reads_25 ?_
  refine G_iastk 0 dX12_reads_26 (o106 hT) (by decide) rfl ?_
  have := m_reads_L d τ h hT x _ (hs_ (hs_ (hs_ (hs_ h 81 31 0) 102 10 0) 81 32 0) 106 0 0) 0 [] false ([], false) (Nat.lt_succ_self _) ?_ ?_ (by have := x.e_; omega) (fun s hs => by cases hs)
  · exact this
  · refine ⟨?_, ⟨?_, Nat.zero_le _, fun i hi => absurd hi (Nat.not_lt_zero _), ?_⟩, Nat.zero_le _, fun j hj => absurd hj (Nat.not_lt_zero _), (fun s hs => by cases hs), fun j hj => ?_, ?_⟩
    · simp [hs_]
    · simp [hs_]
    · simp [hs_]
    · have : j = 0 := Nat.le_zero.mp hj; subst this; simp [hs_]
    · simp [hs_]
  · exact FRp_31.tr (FRp.tr (h1 := hs_ (hs_ h 81 31 0) 102 10 0) (fun a i _ _ _ s _ => if_neg fun z => s z.1 z.2) (FRp.tr (h1 := hs_ (hs_ (hs_ h 81 31 0) 102 10 0) 81 32 0) (fun a i _ _ _ _ t => if_neg fun z => (t z.1).1 z.2) FRp_106))

/-- what figure() does: its answer, the reference's rows behind it -/
def fig_res (h : HT) (v : Int) (h' : HT) : Prop :=
  (h 81 26 = 10 → v = -4 ∧ h' = h) ∧
  (h 81 26 ≠ 10 → ∀ r : Int × OT, r = PR h ((h 81 27).toNat + 1) 0 [] false ([], false) → h' 81 27 = 0 ∧
    (∀ a i : Nat, a ≠ 105 → a ≠ 106 → a ≠ 103 → a ≠ 102 → (a = 81 → i ≠ 32 ∧ i ≠ 31 ∧ i ≠ 27 ∧ i ≠ 26) → h' a i = h a i) ∧
    (∀ f : Nat, (f : Int) < h 81 26 → h' 102 f = h 102 f) ∧ (∀ k : Nat, (k : Int) < 300 * h 81 26 → h' 103 k = h 103 k) ∧
    (r.1 ≠ -1 → v = -10 - r.1 ∧ h' 81 26 = h 81 26) ∧
    (r.1 = -1 → r.2.2 = true → v = -2 ∧ h' 81 26 = h 81 26) ∧
    (r.1 = -1 → r.2.2 ≠ true → v = h 81 26 ∧ h' 81 26 = h 81 26 + 1 ∧ h' 102 (h 81 26).toNat = r.2.1.length ∧ ∀ k : Nat, k < r.2.1.length → r.2.1[k]? = some (h' 103 (300 * (h 81 26).toNat + k))))
def f_fg (h : HT) (F k : Nat) : HT := hf_ h 103 (300 * F) (300 * F + k) (fun q => h 103 (3000 + (q - 300 * F)))
theorem m_figure_L (d : Nat) (τ : TT) (hT : TK τ) (g : HT) (F l : Nat) (good : Int) (hl : l ≤ 300) (hF : F < 10) (eF : g 81 26 = (F : Int)) (el : g 102 10 = (l : Int)) : ∀ (n_ : Nat) (k : Nat), l - k < n_ → k ≤ l → G_ mX12_figure (d + 3) 0 0 62 [some (.inr (some 81)), some (.inl good), some (.inl (k : Int))] [] τ (f_fg g F k) (Zi τ fun v h' => v = (F : Int) ∧ h' = hs_ (f_fg g F l) 81 26 ((F : Int) + 1)) := by
  intro n_
  induction n_ with
  | zero => intro k hm_; exact absurd hm_ (Nat.not_lt_zero _)
  | succ n_ ih =>
    intro k hm_ hk
    refine G_iload_n (i := 2) dX12_figure_62 rfl rfl ?_
    refine G_aload_n (i := 0) dX12_figure_63 rfl rfl ?_
    refine G_getR fX12_96 rfl dX12_figure_64 (o81 hT) (r81_28 hT) ?_
    refine G_bipush dX12_figure_67 (by decide) ?_
    refine G_iald (v := g 102 10) dX12_figure_69 (o102 hT) (by decide) (hf_na (by decide)) ?_
    refine G_icmp_ge (tgt := 104) dX12_figure_70 (by decide) (by omega) (by omega) (fun c_1 => ?_) (fun c_1 => ?_)
    · refine G_aload_n (i := 0) dX12_figure_104 rfl rfl ?_
      refine G_dup dX12_figure_105 ?_
      refine G_getI (v := g 81 26) fX12_90 rfl dX12_figure_106 (o81 hT) (hf_na (by decide)) ?_
      refine G_iconst dX12_figure_109 ?_
      refine G_iadd dX12_figure_110 ?_
      refine G_putI fX12_90 dX12_figure_111 (o81 hT) ?_
      refine G_aload_n (i := 0) dX12_figure_114 rfl rfl ?_
      refine G_getI (v := (g 81 26) + 1) fX12_90 rfl dX12_figure_115 (o81 hT) (hs_eq) ?_
      refine G_iconst dX12_figure_118 ?_
      refine G_isub dX12_figure_119 ?_
      refine G_iretZ rfl dX12_figure_120 ?_
      obtain rfl : k = l := by omega
      exact ⟨by omega, by rw [eF]⟩
    · refine G_aload_n (i := 0) dX12_figure_73 rfl rfl ?_
      refine G_getR fX12_99 rfl dX12_figure_74 (o81 hT) (r81_29 hT) ?_
      refine G_sipush dX12_figure_77 (by decide) ?_
      refine G_aload_n (i := 0) dX12_figure_80 rfl rfl ?_
      refine G_getI (v := g 81 26) fX12_90 rfl dX12_figure_81 (o81 hT) (hf_na (by decide)) ?_
      refine G_imul dX12_figure_84 ?_
      refine G_iload_n (i := 2) dX12_figure_85 rfl rfl ?_
      refine G_iadd dX12_figure_86 ?_
      refine G_aload_n (i := 0) dX12_figure_87 rfl rfl ?_
      refine G_getR fX12_99 rfl dX12_figure_88 (o81 hT) (r81_29 hT) ?_
      refine G_sipush dX12_figure_91 (by decide) ?_
      refine G_iload_n (i := 2) dX12_figure_94 rfl rfl ?_
      refine G_iadd dX12_figure_95 ?_
      refine G_iald (v := g 103 (3000 + k)) dX12_figure_96 (o103 hT) (by omega) (hf_ni (by omega)) ?_
      refine G_iastk (((300 * (g 81 26)) + (k : Int)).toNat) dX12_figure_97 (o103 hT) (by omega) rfl ?_
      refine G_iinc (ls' := [some (.inr (some 81)), some (.inl good), some (.inl ((k : Int) + 1))]) dX12_figure_98 (by decide) rfl rfl ?_
      refine G_goto (tgt := 62) dX12_figure_101 (by decide) ?_
      rw [show (300 * g 81 26 + (k : Int)).toNat = 300 * F + k by omega]
      unfold f_fg
      rw [hf_snoc (by omega) (by rw [show 3000 + (300 * F + k - 300 * F) = 3000 + k by omega])]
      exact ih (k + 1) (by omega) (by omega)

theorem m_figure (d : Nat) (τ : TT) (h : HT) (hT : TK τ) (x : MI h) : S_ mX12_figure (d + 3) 0 0 [.inr (some 81)] τ h (Zi τ fun v h' => fig_res h v h') := by
  have hf10 := x.f_
  refine S_go (k := 2) (ls := [some (.inr (some 81)), none, none]) (by decide) rfl (Nat.le_of_ble_eq_true rfl) rfl ?_
  refine G_aload_n (i := 0) dX12_figure_0 rfl rfl ?_
  refine G_getI (v := h 81 26) fX12_90 rfl dX12_figure_1 (o81 hT) rfl ?_
  refine G_bipush dX12_figure_4 (by decide) ?_
  refine G_icmp_ne (tgt := 12) dX12_figure_6 (by decide) (by omega) (by decide) (fun c_1 => ?_) (fun c_1 => ?_)
  · refine G_aload_n (i := 0) dX12_figure_12 rfl rfl ?_
    refine G_cVi (as := []) qX12_254 (m_reads d τ h hT x) rfl rfl (Nat.le_of_ble_eq_true rfl) (o81 hT) dX12_figure_13 (fun w1 g e2 => ?_)
    obtain ⟨p1, p2, om, fr⟩ := e2
    have e26 : g 81 26 = h 81 26 := fr 81 26 (by decide) (by decide) (by omega) (by omega) (by omega)
    have hw1 : w1 = 0 ∨ w1 = 1 := by by_cases z : (PR h ((h 81 27).toNat + 1) 0 [] false ([], false)).1 = -1; (exact Or.inr (p1 z)); (exact Or.inl (p2 z).1)
    have ht := om.2.2.2
    have ht2 : 0 ≤ g 81 32 ∧ g 81 32 ≤ 1 := by rw [ht]; split <;> omega
    refine G_istore_n (i := 1) (ls' := [some (.inr (some 81)), some (.inl w1), none]) dX12_figure_16 rfl (by decide) rfl ?_
    refine G_aload_n (i := 0) dX12_figure_17 rfl rfl ?_
    refine G_iconst dX12_figure_18 ?_
    refine G_putI fX12_93 dX12_figure_19 (o81 hT) ?_
    refine G_iload_n (i := 1) dX12_figure_22 rfl rfl ?_
    refine G_if_ne (tgt := 34) dX12_figure_23 (by decide) (by omega) (fun c_2 => ?_) (fun c_2 => ?_)
    · refine G_aload_n (i := 0) dX12_figure_34 rfl rfl ?_
      refine G_getI (v := g 81 32) fX12_108 rfl dX12_figure_35 (o81 hT) (hs_ni (by decide)) ?_
      refine G_if_eq (tgt := 44) dX12_figure_38 (by decide) (by omega) (fun c_3 => ?_) (fun c_3 => ?_)
      · refine G_aload_n (i := 0) dX12_figure_44 rfl rfl ?_
        refine G_getR fX12_96 rfl dX12_figure_45 (o81 hT) (r81_28 hT) ?_
        refine G_aload_n (i := 0) dX12_figure_48 rfl rfl ?_
        refine G_getI (v := g 81 26) fX12_90 rfl dX12_figure_49 (o81 hT) (hs_ni (by decide)) ?_
        refine G_aload_n (i := 0) dX12_figure_52 rfl rfl ?_
        refine G_getR fX12_96 rfl dX12_figure_53 (o81 hT) (r81_28 hT) ?_
        refine G_bipush dX12_figure_56 (by decide) ?_
        refine G_iald (v := g 102 10) dX12_figure_58 (o102 hT) (by decide) (hs_na (by decide)) ?_
        refine G_iastk ((g 81 26).toNat) dX12_figure_59 (o102 hT) (by omega) rfl ?_
        refine G_iconst dX12_figure_60 ?_
        refine G_istore_n (i := 2) (ls' := [some (.inr (some 81)), some (.inl w1), some (.inl 0)]) dX12_figure_61 rfl (by decide) rfl ?_
        have hq2 : (PR h ((h 81 27).toNat + 1) 0 [] false ([], false)).2.2 ≠ true := by intro z; have := om.2.2.2; rw [z, if_pos rfl] at this; omega
        have hr1 : (PR h ((h 81 27).toNat + 1) 0 [] false ([], false)).1 = -1 := Classical.byContradiction fun z => by have := (p2 z).1; omega
        obtain ⟨F, eF⟩ : ∃ F : Nat, h 81 26 = (F : Int) := ⟨(h 81 26).toNat, by omega⟩
        have eFn : (g 81 26).toNat = F := by omega
        rw [eFn]
        have h10 := om.1
        generalize hgg : hs_ (hs_ g 81 27 0) 102 F (g 102 10) = gg
        have a1 : gg 81 26 = (F : Int) := by rw [← hgg, hs_na (by decide), hs_ni (by decide)]; omega
        have a2 : gg 102 10 = ((PR h ((h 81 27).toNat + 1) 0 [] false ([], false)).2.1.length : Int) := by rw [← hgg, hs_ni (by omega), hs_na (by decide)]; exact h10
        have := m_figure_L d τ hT gg F (PR h ((h 81 27).toNat + 1) 0 [] false ([], false)).2.1.length w1 om.2.1 (by omega) a1 a2 _ 0 (Nat.lt_succ_self _) (Nat.zero_le _)
        rw [show f_fg gg F 0 = gg from hf_nil] at this
        refine G_mono ?_ this
        rintro r τ' h' ⟨q1, v, q2, q3, q4⟩
        refine ⟨q1, v, q2, ?_⟩
        subst q3; subst q4
        have g26 : ∀ a i, a ≠ 102 → ¬ (a = 81 ∧ i = 27) → gg a i = g a i := fun a i z1 z2 => by rw [← hgg, hs_na z1]; exact if_neg z2
        have hh : ∀ a i, ¬ (a = 81 ∧ i = 26) → a ≠ 103 → hs_ (f_fg gg F (PR h ((h 81 27).toNat + 1) 0 [] false ([], false)).2.1.length) 81 26 ((F : Int) + 1) a i = gg a i := fun a i z1 z2 => (show hs_ (f_fg gg F _) 81 26 _ a i = f_fg gg F _ a i from if_neg z1).trans (hf_na z2)
        have h3 : ∀ k, hs_ (f_fg gg F (PR h ((h 81 27).toNat + 1) 0 [] false ([], false)).2.1.length) 81 26 ((F : Int) + 1) 103 k = f_fg gg F (PR h ((h 81 27).toNat + 1) 0 [] false ([], false)).2.1.length 103 k := fun k => hs_na (by decide)
        refine ⟨fun z => by omega, fun _ rr hrr => ?_⟩
        subst hrr
        refine ⟨?_, fun a i z1 z2 z3 z4 z5 => ?_, fun f hf => ?_, fun k hk => ?_, fun z => absurd hr1 z, fun _ z => absurd z hq2, fun _ _ => ⟨by omega, by rw [hs_eq]; omega, ?_, fun k hk => ?_⟩⟩
        · rw [hh _ _ (by decide) (by decide), ← hgg, hs_na (by decide), hs_eq]
        · rw [hh _ _ (fun z => (z5 z.1).2.2.2 z.2) z3, g26 _ _ z4 (fun z => (z5 z.1).2.2.1 z.2)]; exact fr a i z1 z2 (fun z => absurd z z3) (fun z => absurd z z4) (fun z => ⟨(z5 z).1, (z5 z).2.1⟩)
        · rw [hh _ _ (by omega) (by decide), ← hgg, hs_ni (by omega), hs_na (by decide)]; exact fr 102 f (by decide) (by decide) (by omega) (by omega) (by omega)
        · rw [h3]; unfold f_fg; rw [hf_ni (by omega), g26 _ _ (by decide) (by omega)]; exact fr 103 k (by decide) (by decide) (by omega) (by omega) (by omega)
        · rw [hh _ _ (by omega) (by decide), show (h 81 26).toNat = F by omega, ← hgg, hs_eq]; exact h10
        · rw [h3, show (h 81 26).toNat = F by omega]; unfold f_fg; rw [hf_in (by omega), show 3000 + (300 * F + k - 300 * F) = 3000 + k by omega, g26 _ _ (by decide) (by omega)]; exact om.2.2.1 k hk
      · refine G_bipush dX12_figure_41 (by decide) ?_
        refine G_iretZ rfl dX12_figure_43 ?_
        have hr1 : (PR h ((h 81 27).toNat + 1) 0 [] false ([], false)).1 = -1 := Classical.byContradiction fun z => by have := (p2 z).1; omega
        have hq2 : (PR h ((h 81 27).toNat + 1) 0 [] false ([], false)).2.2 = true := (Classical.em _).elim id (fun z => by have := om.2.2.2; rw [if_neg z] at this; omega)
        refine ⟨fun z => by omega, fun _ rr hrr => ?_⟩
        subst hrr
        refine ⟨hs_eq, fun a i z1 z2 z3 z4 z5 => ?_, fun f hf => ?_, fun k hk => ?_, ?_, ?_, ?_⟩
        · rw [show hs_ g 81 27 0 a i = g a i from if_neg fun z => (z5 z.1).2.2.1 z.2]; exact fr a i z1 z2 (fun z => absurd z z3) (fun z => absurd z z4) (fun z => ⟨(z5 z).1, (z5 z).2.1⟩)
        · rw [hs_na (by decide)]; exact fr 102 f (by decide) (by decide) (by omega) (by omega) (by omega)
        · rw [hs_na (by decide)]; exact fr 103 k (by decide) (by decide) (by omega) (by omega) (by omega)
        · exact fun z => absurd hr1 z
        · exact fun _ _ => ⟨rfl, by rw [hs_ni (by decide)]; exact e26⟩
        · exact fun _ z => absurd hq2 z
    · refine G_bipush dX12_figure_26 (by decide) ?_
      refine G_aload_n (i := 0) dX12_figure_28 rfl rfl ?_
      refine G_getI (v := g 81 31) fX12_105 rfl dX12_figure_29 (o81 hT) (hs_ni (by decide)) ?_
      refine G_isub dX12_figure_32 ?_
      refine G_iretZ rfl dX12_figure_33 ?_
      have hr1 : (PR h ((h 81 27).toNat + 1) 0 [] false ([], false)).1 ≠ -1 := fun z => by have := p1 z; omega
      have hsp := (p2 hr1).2
      refine ⟨fun z => by omega, fun _ rr hrr => ?_⟩
      subst hrr
      refine ⟨hs_eq, fun a i z1 z2 z3 z4 z5 => ?_, fun f hf => ?_, fun k hk => ?_, ?_, ?_, ?_⟩
      · rw [show hs_ g 81 27 0 a i = g a i from if_neg fun z => (z5 z.1).2.2.1 z.2]; exact fr a i z1 z2 (fun z => absurd z z3) (fun z => absurd z z4) (fun z => ⟨(z5 z).1, (z5 z).2.1⟩)
      · rw [hs_na (by decide)]; exact fr 102 f (by decide) (by decide) (by omega) (by omega) (by omega)
      · rw [hs_na (by decide)]; exact fr 103 k (by decide) (by decide) (by omega) (by omega) (by omega)
      · exact fun _ => ⟨by omega, by rw [hs_ni (by decide)]; exact e26⟩
      · exact fun z => absurd z hr1
      · exact fun z => absurd z hr1
  · refine G_bipush dX12_figure_9 (by decide) ?_
    refine G_iretZ rfl dX12_figure_11 ?_
    exact ⟨fun _ => ⟨rfl, rfl⟩, fun z => absurd (by omega) z⟩

