/-! the reference: reads and figure -/
theorem m_reads_L3 (d : Nat) (τ : TT) (h : HT) (hT : TK τ) (D F : Nat) (c : Int) (o : OT) (Z : ZT) (g : HT) (x : MI h) (fr : FRp h g) (hc : c = 65 + (F : Int)) (hF : (F : Int) < h 81 26) (K : ∀ g1 : HT, OM g1 (o_ads o (figL h F)) → FRa g g1 → G_ mX12_reads (d + 2) 0 0 345 [some (.inr (some 81)), some (.inl ((D : Nat) : Int)), some (.inl c), none] [] τ g1 (Z)) : ∀ (n_ : Nat) (g1 : HT) (k : Nat), (h 102 F).toNat - k < n_ → (k : Int) ≤ h 102 F → OM g1 (o_ads o ((figL h F).take k)) → FRa g g1 → G_ mX12_reads (d + 2) 0 0 171 [some (.inr (some 81)), some (.inl ((D : Nat) : Int)), some (.inl c), some (.inl ((k : Nat) : Int))] [] τ g1 (Z) := by
  intro n_
  induction n_ with
  | zero => intro g1 k hm_; exact absurd hm_ (Nat.not_lt_zero _)
  | succ n_ ih =>
    intro g1 k hm_ hk x1 fr1
    have hf10 := x.f_
    have hm := x.ma_ F hF
    have ec : (c - 65).toNat = F := by omega
    have e102 : g1 102 (c - 65).toNat = h 102 F := by rw [ec]; exact (fr1 102 F (by omega) (by omega) (by omega)).trans (fr 102 F (by omega) (by omega) (by omega) (by omega) (by omega))
    have ei : (300 * (c - 65) + (k : Int)).toNat = 300 * F + k := by omega
    refine G_iload_n (i := 3) dX12_reads_171 rfl rfl ?_
    refine G_aload_n (i := 0) dX12_reads_172 rfl rfl ?_
    refine G_getR fX12_96 rfl dX12_reads_173 (o81 hT) (r81_28 hT) ?_
    refine G_iload_n (i := 2) dX12_reads_176 rfl rfl ?_
    refine G_bipush dX12_reads_177 (by decide) ?_
    refine G_isub dX12_reads_179 ?_
    refine G_iald (v := g1 102 ((c - 65).toNat)) dX12_reads_180 (o102 hT) (by omega) rfl ?_
    refine G_icmp_ge (tgt := 209) dX12_reads_181 (by decide) (by omega) (by omega) (fun c_1 => ?_) (fun c_1 => ?_)
    · refine G_goto (tgt := 345) dX12_reads_209 (by decide) ?_
      refine G_lsub (ls' := [some (.inr (some 81)), some (.inl ((D : Nat) : Int)), some (.inl c), none]) (LS_same (LS_same (LS_same (LS_none LS_nil)))) ?_
      exact K g1 (by rw [show figL h F = (figL h F).take k from (List.take_of_length_le (by rw [figL_len]; omega)).symm]; exact x1) fr1
    · refine G_aload_n (i := 0) dX12_reads_184 rfl rfl ?_
      refine G_aload_n (i := 0) dX12_reads_185 rfl rfl ?_
      refine G_getR fX12_99 rfl dX12_reads_186 (o81 hT) (r81_29 hT) ?_
      refine G_sipush dX12_reads_189 (by decide) ?_
      refine G_iload_n (i := 2) dX12_reads_192 rfl rfl ?_
      refine G_bipush dX12_reads_193 (by decide) ?_
      refine G_isub dX12_reads_195 ?_
      refine G_imul dX12_reads_196 ?_
      refine G_iload_n (i := 3) dX12_reads_197 rfl rfl ?_
      refine G_iadd dX12_reads_198 ?_
      refine G_iald (v := g1 103 (((300 * (c - 65)) + ((k : Nat) : Int)).toNat)) dX12_reads_199 (o103 hT) (by omega) rfl ?_
      refine G_cVv (as := [.inl (g1 103 (((300 * (c - 65)) + ((k : Nat) : Int)).toNat))]) qX12_237 (m_add (d + 1) τ g1 hT (o_ads o ((figL h F).take k)) (g1 103 (((300 * (c - 65)) + ((k : Nat) : Int)).toNat)) x1) rfl rfl (Nat.le_of_ble_eq_true rfl) (o81 hT) dX12_reads_200 (fun g2 e2 => ?_)
      obtain ⟨om2, fr2⟩ := e2
      refine G_iinc (ls' := [some (.inr (some 81)), some (.inl ((D : Nat) : Int)), some (.inl c), some (.inl (((k : Nat) : Int) + 1))]) dX12_reads_203 (by decide) rfl rfl ?_
      refine G_goto (tgt := 171) dX12_reads_206 (by decide) ?_
      have e103_ : g1 103 (300 * (c - 65) + (k : Int)).toNat = h 103 (300 * F + k) := by rw [ei]; exact (fr1 103 (300 * F + k) (by omega) (by omega) (by omega)).trans (fr 103 (300 * F + k) (by omega) (by omega) (by omega) (by omega) (by omega))
      rw [e103_] at om2
      exact ih g2 (k + 1) (by omega) (by omega) (by have v1 := figL_at (h := h) (f := F) (k := k) (by omega); rw [show k + 1 = k + 1 - 0 from rfl, show k = k - 0 from rfl, take_s (L := figL h F) (f := 0) (by omega) v1, o_ads_snoc]; exact om2) (fr1.tr fr2)

