/-! the reference: people set to places -/
/-- how many of the first k are asked for; which they are -/
def f_cn (B : Nat → Int) : Nat → Nat
  | 0 => 0
  | k + 1 => f_cn B k + if B k = 0 then 0 else 1
def f_mb (B : Nat → Int) : Nat → Nat → Int
  | 0, _ => 0
  | k + 1, i => if B k ≠ 0 ∧ i = f_cn B k then (k : Int) else f_mb B k i
theorem f_mb_r {B : Nat → Int} : ∀ (k i : Nat), i < f_cn B k → 0 ≤ f_mb B k i ∧ f_mb B k i < k
  | 0, _, h => absurd h (Nat.not_lt_zero _)
  | k + 1, i, h => by
    have h2 : i < f_cn B k + if B k = 0 then 0 else 1 := h
    show 0 ≤ (if B k ≠ 0 ∧ i = f_cn B k then (k : Int) else f_mb B k i) ∧ (if B k ≠ 0 ∧ i = f_cn B k then (k : Int) else f_mb B k i) < ((k + 1 : Nat) : Int)
    by_cases a : B k ≠ 0 ∧ i = f_cn B k
    · rw [if_pos a]; omega
    · rw [if_neg a]
      have := f_mb_r (B := B) k i (by by_cases z : B k = 0; (rw [if_pos z] at h2; omega); (rw [if_neg z] at h2; have : i ≠ f_cn B k := fun e => a ⟨z, e⟩; omega))
      omega
theorem f_cn_le (B : Nat → Int) : ∀ k : Nat, f_cn B k ≤ k
  | 0 => Nat.le_refl _
  | k + 1 => by
    have := f_cn_le B k
    show f_cn B k + _ ≤ _
    split <;> omega
theorem f_cn_m (B : Nat → Int) (k : Nat) : ∀ j : Nat, f_cn B k ≤ f_cn B (k + j)
  | 0 => Nat.le_refl _
  | j + 1 => by
    have := f_cn_m B k j
    show _ ≤ f_cn B (k + j) + _
    omega
abbrev f_ab (x : Int) : Int := if x < 0 then -x else x
abbrev f_ny (n p : Nat) : Nat := if p + 1 = n then 0 else p + 1
def f_sm (n : Nat) (R : Nat → Int) (o : Nat → Int) : Nat → Int
  | 0 => 0
  | p + 1 => f_sm n R o p + f_ab (R (o p).toNat - R (o (f_ny n p)).toNat)
theorem f_sm_c {n : Nat} {R : Nat → Int} {o o' : Nat → Int} (e : ∀ q : Nat, q < n → o q = o' q) : ∀ p : Nat, p ≤ n → f_sm n R o p = f_sm n R o' p
  | 0, _ => rfl
  | p + 1, hp => by
    show f_sm n R o p + f_ab (R (o p).toNat - R (o (f_ny n p)).toNat) = f_sm n R o' p + f_ab (R (o' p).toNat - R (o' (f_ny n p)).toNat)
    rw [f_sm_c e p (by omega), e p (by omega), e (f_ny n p) (by unfold f_ny; split <;> omega)]
theorem f_sm_r {n : Nat} {R : Nat → Int} {o : Nat → Int} (hR : ∀ i : Nat, i < n → 0 ≤ R i ∧ R i ≤ 20) (P : isP n o) : ∀ p : Nat, p ≤ n → 0 ≤ f_sm n R o p ∧ f_sm n R o p ≤ 20 * p
  | 0, _ => ⟨Int.le_refl _, by show (0 : Int) ≤ 20 * 0; omega⟩
  | p + 1, hp => by
    have ih := f_sm_r hR P p (by omega)
    have a := P.1 p (by omega)
    have b := P.1 (f_ny n p) (by unfold f_ny; split <;> omega)
    have c := hR (o p).toNat (by omega)
    have d := hR (o (f_ny n p)).toNat (by omega)
    show 0 ≤ f_sm n R o p + f_ab _ ∧ f_sm n R o p + f_ab _ ≤ 20 * ((p + 1 : Nat) : Int)
    unfold f_ab
    split <;> omega
/-- the first least one among those below v -/
def MINP (n : Nat) (S : (Nat → Int) → Int) (v : Nat) (o : Nat → Int) : Prop := isP n o ∧ rk_ n o < v ∧ ∀ o' : Nat → Int, isP n o' → rk_ n o' < v → S o ≤ S o' ∧ (rk_ n o' < rk_ n o → S o < S o')
theorem MINP_s {n : Nat} {S : (Nat → Int) → Int} {v : Nat} {o s : Nat → Int} (hc : ∀ o o' : Nat → Int, (∀ q : Nat, q < n → o q = o' q) → S o = S o') (x : MINP n S v o) (hs : isP n s) (e : rk_ n s = v) : (S s < S o → MINP n S (v + 1) s) ∧ (¬ S s < S o → MINP n S (v + 1) o) := by
  obtain ⟨x1, x2, x3⟩ := x
  refine ⟨fun q => ⟨hs, by omega, fun o' h1 h2 => ?_⟩, fun q => ⟨x1, by omega, fun o' h1 h2 => ?_⟩⟩
  · rcases Nat.lt_succ_iff_lt_or_eq.mp h2 with z | z
    · have := (x3 o' h1 z).1; omega
    · have := hc o' s (rk_inj h1 hs (by omega) n (Nat.le_refl _)); omega
  · rcases Nat.lt_succ_iff_lt_or_eq.mp h2 with z | z
    · exact x3 o' h1 z
    · have := hc o' s (rk_inj h1 hs (by omega) n (Nat.le_refl _)); omega
theorem MINP_0 {n : Nat} {S : (Nat → Int) → Int} {s : Nat → Int} (hc : ∀ o o' : Nat → Int, (∀ q : Nat, q < n → o q = o' q) → S o = S o') (hs : isP n s) (e : rk_ n s = 0) : MINP n S 1 s := ⟨hs, by omega, fun o' h1 h2 => by
  have := hc o' s (rk_inj h1 hs (by omega) n (Nat.le_refl _)); omega⟩
def FRs (h g : HT) : Prop := ∀ b j : Nat, ¬ (117 ≤ b ∧ b ≤ 120) → (b = 81 → j ≠ 54) → g b j = h b j
theorem FRs.rf {h : HT} : FRs h h := fun _ _ _ _ => rfl
theorem FRs.tr {h g k : HT} (x : FRs h g) (y : FRs g k) : FRs h k := fun a i p q => (y a i p q).trans (x a i p q)
def f_B (s : Int) (k : Nat) : Int := b_and (b_shr s (k : Int)) 1
theorem m_set_S (d : Nat) (τ : TT) (h : HT) (hT : TK τ) (Z : ZT) (g : HT) (n pp : Nat) (s : Int) (hn : h 81 1 = n ∧ 3 ≤ n ∧ n ≤ 7) (hpp : pp ≤ 15) (hcn : f_cn (f_B s) pp = n) (hre : ∀ k : Nat, k < 15 → 0 ≤ h 83 k ∧ h 83 k ≤ 20) (hg1 : g 81 1 = n) (P : isP n (g 119)) (hm : ∀ i : Nat, i < n → g 118 i = (f_mb (f_B s) pp) i) (h83 : ∀ j : Nat, g 83 j = h 83 j) (al : Int) (v : Nat) (K : G_ mX12_findSet (d + 1) 0 0 226 [some (.inr (some 81)), some (.inl s), none, some (.inl al), some (.inl (v : Int)), some (.inl (f_sm n (fun i => h 83 (f_mb (f_B s) pp i).toNat) (g 119) n)), none] [] τ g (Z)) : ∀ (n_ : Nat) (p : Nat), n - p < n_ → p ≤ n → G_ mX12_findSet (d + 1) 0 0 163 [some (.inr (some 81)), some (.inl s), none, some (.inl al), some (.inl (v : Int)), some (.inl (f_sm n (fun i => h 83 (f_mb (f_B s) pp i).toNat) (g 119) p)), some (.inl (p : Int))] [] τ g (Z) := by
  intro n_
  induction n_ with
  | zero => intro p hm_; exact absurd hm_ (Nat.not_lt_zero _)
  | succ n_ ih =>
    intro p hm_ hp
    refine G_iload dX12_findSet_163 rfl ?_
    refine G_aload_n (i := 0) dX12_findSet_165 rfl rfl ?_
    refine G_getI (v := g 81 1) fX12_13 rfl dX12_findSet_166 (o81 hT) rfl ?_
    refine G_icmp_ge (tgt := 226) dX12_findSet_169 (by decide) (by omega) (by omega) (fun c_1 => ?_) (fun c_1 => ?_)
    · refine G_lsub (ls' := [some (.inr (some 81)), some (.inl s), none, some (.inl al), some (.inl (v : Int)), some (.inl (f_sm n (fun i => h 83 (f_mb (f_B s) pp i).toNat) (g 119) p)), none]) (LS_same (LS_same (LS_none (LS_same (LS_same (LS_same (LS_none LS_nil))))))) ?_
      obtain rfl : p = n := by omega
      exact K
    · refine G_iload dX12_findSet_172 rfl ?_
      refine G_aload_n (i := 0) dX12_findSet_174 rfl rfl ?_
      refine G_aload_n (i := 0) dX12_findSet_175 rfl rfl ?_
      refine G_getR fX12_20 rfl dX12_findSet_176 (o81 hT) (r81_3 hT) ?_
      refine G_aload_n (i := 0) dX12_findSet_179 rfl rfl ?_
      refine G_getR fX12_165 rfl dX12_findSet_180 (o81 hT) (r81_51 hT) ?_
      refine G_aload_n (i := 0) dX12_findSet_183 rfl rfl ?_
      refine G_getR fX12_168 rfl dX12_findSet_184 (o81 hT) (r81_52 hT) ?_
      refine G_iload dX12_findSet_187 rfl ?_
      refine G_iald (v := g 119 p) dX12_findSet_189 (o119 hT) (by omega) rfl ?_
      have o189 := P.1 p (by omega)
      have r189 := f_mb_r (B := f_B s) pp (g 119 p).toNat (by omega)
      refine G_iald (v := (f_mb (f_B s) pp) ((g 119 p).toNat)) dX12_findSet_190 (o118 hT) (by omega) (hm ((g 119 p).toNat) (by omega)) ?_
      refine G_iald (v := h 83 (((f_mb (f_B s) pp) ((g 119 p).toNat)).toNat)) dX12_findSet_191 (o83 hT) (by omega) (h83 (((f_mb (f_B s) pp) ((g 119 p).toNat)).toNat)) ?_
      have q191 := hre (((f_mb (f_B s) pp) ((g 119 p).toNat)).toNat) (by omega)
      refine G_aload_n (i := 0) dX12_findSet_192 rfl rfl ?_
      refine G_getR fX12_20 rfl dX12_findSet_193 (o81 hT) (r81_3 hT) ?_
      refine G_aload_n (i := 0) dX12_findSet_196 rfl rfl ?_
      refine G_getR fX12_165 rfl dX12_findSet_197 (o81 hT) (r81_51 hT) ?_
      refine G_aload_n (i := 0) dX12_findSet_200 rfl rfl ?_
      refine G_getR fX12_168 rfl dX12_findSet_201 (o81 hT) (r81_52 hT) ?_
      refine G_aload_n (i := 0) dX12_findSet_204 rfl rfl ?_
      refine G_iload dX12_findSet_205 rfl ?_
      refine G_cVq (as := [.inl (p : Int)]) qX12_207 (m_after d τ g hT (p : Int) (by omega) (by omega)) rfl rfl (Nat.le_of_ble_eq_true rfl) (o81 hT) dX12_findSet_207 ?_
      have ea : f_aft (g 81 1) (p : Int) = ((f_ny n p : Nat) : Int) := by rw [hg1]; exact f_aft_n (by omega)
      have hq : f_ny n p < n := by unfold f_ny; split <;> omega
      have hq2 : (f_aft (g 81 1) (p : Int)).toNat < n := by rw [ea, Int.toNat_natCast]; exact hq
      refine G_iald (v := g 119 ((f_aft (g 81 1) (p : Int)).toNat)) dX12_findSet_210 (o119 hT) (by omega) rfl ?_
      have o210 := P.1 ((f_aft (g 81 1) (p : Int)).toNat) (by omega)
      have r210 := f_mb_r (B := f_B s) pp (g 119 ((f_aft (g 81 1) (p : Int)).toNat)).toNat (by omega)
      refine G_iald (v := (f_mb (f_B s) pp) ((g 119 ((f_aft (g 81 1) (p : Int)).toNat)).toNat)) dX12_findSet_211 (o118 hT) (by omega) (hm ((g 119 ((f_aft (g 81 1) (p : Int)).toNat)).toNat) (by omega)) ?_
      refine G_iald (v := h 83 (((f_mb (f_B s) pp) ((g 119 ((f_aft (g 81 1) (p : Int)).toNat)).toNat)).toNat)) dX12_findSet_212 (o83 hT) (by omega) (h83 (((f_mb (f_B s) pp) ((g 119 ((f_aft (g 81 1) (p : Int)).toNat)).toNat)).toNat)) ?_
      have q212 := hre (((f_mb (f_B s) pp) ((g 119 ((f_aft (g 81 1) (p : Int)).toNat)).toNat)).toNat) (by omega)
      refine G_isub dX12_findSet_213 ?_
      refine G_cVq (as := [.inl ((h 83 (((f_mb (f_B s) pp) ((g 119 p).toNat)).toNat)) - (h 83 (((f_mb (f_B s) pp) ((g 119 ((f_aft (g 81 1) (p : Int)).toNat)).toNat)).toNat)))]) qX12_264 (m_abs d τ g 81 ((h 83 (((f_mb (f_B s) pp) ((g 119 p).toNat)).toNat)) - (h 83 (((f_mb (f_B s) pp) ((g 119 ((f_aft (g 81 1) (p : Int)).toNat)).toNat)).toNat))) (by omega)) rfl rfl (Nat.le_of_ble_eq_true rfl) (o81 hT) dX12_findSet_214 ?_
      refine G_iadd dX12_findSet_217 ?_
      refine G_istore (ls' := [some (.inr (some 81)), some (.inl s), none, some (.inl al), some (.inl (v : Int)), some (.inl ((f_sm n (fun i => h 83 (f_mb (f_B s) pp i).toNat) (g 119) p) + (f_ab ((h 83 (((f_mb (f_B s) pp) ((g 119 p).toNat)).toNat)) - (h 83 (((f_mb (f_B s) pp) ((g 119 ((f_aft (g 81 1) (p : Int)).toNat)).toNat)).toNat)))))), some (.inl (p : Int))]) dX12_findSet_218 (by decide) rfl ?_
      refine G_iinc (ls' := [some (.inr (some 81)), some (.inl s), none, some (.inl al), some (.inl (v : Int)), some (.inl ((f_sm n (fun i => h 83 (f_mb (f_B s) pp i).toNat) (g 119) p) + (f_ab ((h 83 (((f_mb (f_B s) pp) ((g 119 p).toNat)).toNat)) - (h 83 (((f_mb (f_B s) pp) ((g 119 ((f_aft (g 81 1) (p : Int)).toNat)).toNat)).toNat)))))), some (.inl ((p : Int) + 1))]) dX12_findSet_220 (by decide) rfl rfl ?_
      refine G_goto (tgt := 163) dX12_findSet_223 (by decide) ?_
      rw [ea, Int.toNat_natCast]
      exact ih (p + 1) (by omega) (by omega)

theorem m_set_C (d : Nat) (τ : TT) (h : HT) (hT : TK τ) (Z : ZT) (g : HT) (n pp : Nat) (s : Int) (hn : h 81 1 = n ∧ 3 ≤ n ∧ n ≤ 7) (hpp : pp ≤ 15) (hcn : f_cn (f_B s) pp = n) (hre : ∀ k : Nat, k < 15 → 0 ≤ h 83 k ∧ h 83 k ≤ 20) (hg1 : g 81 1 = n) (P : isP n (g 119)) (hm : ∀ i : Nat, i < n → g 118 i = (f_mb (f_B s) pp) i) (al : Int) (v : Nat) (sm : Int) (K : G_ mX12_findSet (d + 1) 0 0 281 [some (.inr (some 81)), some (.inl s), none, some (.inl al), some (.inl (v : Int)), none, none] [] τ (hf_ g 120 0 n (fun q => (f_mb (f_B s) pp) (g 119 q).toNat)) (Z)) : ∀ (n_ : Nat) (p : Nat), n - p < n_ → p ≤ n → G_ mX12_findSet (d + 1) 0 0 247 [some (.inr (some 81)), some (.inl s), none, some (.inl al), some (.inl (v : Int)), some (.inl sm), some (.inl (p : Int))] [] τ (hf_ g 120 0 p (fun q => (f_mb (f_B s) pp) (g 119 q).toNat)) (Z) := by
  intro n_
  induction n_ with
  | zero => intro p hm_; exact absurd hm_ (Nat.not_lt_zero _)
  | succ n_ ih =>
    intro p hm_ hp
    refine G_iload dX12_findSet_247 rfl ?_
    refine G_aload_n (i := 0) dX12_findSet_249 rfl rfl ?_
    refine G_getI (v := g 81 1) fX12_13 rfl dX12_findSet_250 (o81 hT) (hf_na (by decide)) ?_
    refine G_icmp_ge (tgt := 281) dX12_findSet_253 (by decide) (by omega) (by omega) (fun c_1 => ?_) (fun c_1 => ?_)
    · refine G_lsub (ls' := [some (.inr (some 81)), some (.inl s), none, some (.inl al), some (.inl (v : Int)), none, none]) (LS_same (LS_same (LS_none (LS_same (LS_same (LS_none (LS_none LS_nil))))))) ?_
      obtain rfl : p = n := by omega
      exact K
    · refine G_aload_n (i := 0) dX12_findSet_256 rfl rfl ?_
      refine G_getR fX12_171 rfl dX12_findSet_257 (o81 hT) (r81_53 hT) ?_
      refine G_iload dX12_findSet_260 rfl ?_
      refine G_aload_n (i := 0) dX12_findSet_262 rfl rfl ?_
      refine G_getR fX12_165 rfl dX12_findSet_263 (o81 hT) (r81_51 hT) ?_
      refine G_aload_n (i := 0) dX12_findSet_266 rfl rfl ?_
      refine G_getR fX12_168 rfl dX12_findSet_267 (o81 hT) (r81_52 hT) ?_
      refine G_iload dX12_findSet_270 rfl ?_
      refine G_iald (v := g 119 p) dX12_findSet_272 (o119 hT) (by omega) (hf_na (by decide)) ?_
      have o272 := P.1 p (by omega)
      have r272 := f_mb_r (B := f_B s) pp (g 119 p).toNat (by omega)
      refine G_iald (v := (f_mb (f_B s) pp) ((g 119 p).toNat)) dX12_findSet_273 (o118 hT) (by omega) ((hf_na (by decide)).trans (hm ((g 119 p).toNat) (by omega))) ?_
      refine G_iastk p dX12_findSet_274 (o120 hT) (by omega) rfl ?_
      refine G_iinc (ls' := [some (.inr (some 81)), some (.inl s), none, some (.inl al), some (.inl (v : Int)), some (.inl sm), some (.inl ((p : Int) + 1))]) dX12_findSet_275 (by decide) rfl rfl ?_
      refine G_goto (tgt := 247) dX12_findSet_278 (by decide) ?_
      rw [hf_snoc (Nat.zero_le _) rfl]
      exact ih (p + 1) (by omega) (by omega)

theorem b_and_r (a b : Int) : -2147483648 ≤ b_and a b ∧ b_and a b ≤ 2147483647 := by
  unfold b_and
  have h1 := Int32.toInt_lt (Int32.ofInt a &&& Int32.ofInt b)
  have h2 := Int32.le_toInt (Int32.ofInt a &&& Int32.ofInt b)
  omega
theorem b_shr_r (a b : Int) : -2147483648 ≤ b_shr a b ∧ b_shr a b ≤ 2147483647 := by
  unfold b_shr
  have h1 := Int32.toInt_lt (Int32.ofInt a >>> (Int32.ofInt b &&& 31))
  have h2 := Int32.le_toInt (Int32.ofInt a >>> (Int32.ofInt b &&& 31))
  omega
abbrev f_SS (h : HT) (n pp : Nat) (s : Int) (o : Nat → Int) : Int := f_sm n (fun i => h 83 (f_mb (f_B s) pp i).toNat) o n
def QS (h g : HT) (n pp : Nat) (s : Int) (v : Nat) : Prop := FRs h g ∧ (∀ i : Nat, i < n → g 118 i = f_mb (f_B s) pp i) ∧ ((v = 0 ∧ g 81 54 = 1000000) ∨ ∃ o : Nat → Int, MINP n (f_SS h n pp s) v o ∧ g 81 54 = f_SS h n pp s o ∧ ∀ p : Nat, p < n → g 120 p = f_mb (f_B s) pp (o p).toNat)
theorem f_SS_c (h : HT) (n pp : Nat) (s : Int) : ∀ o o' : Nat → Int, (∀ q : Nat, q < n → o q = o' q) → f_SS h n pp s o = f_SS h n pp s o' := fun _ _ e => f_sm_c e n (Nat.le_refl _)
theorem f_SS_r {h : HT} {n pp : Nat} {s : Int} (hn : n ≤ 7) (hpp : pp ≤ 15) (hcn : f_cn (f_B s) pp = n) (hre : ∀ k : Nat, k < 15 → 0 ≤ h 83 k ∧ h 83 k ≤ 20) {o : Nat → Int} (P : isP n o) : 0 ≤ f_SS h n pp s o ∧ f_SS h n pp s o ≤ 140 := by
  have := f_sm_r (R := fun i => h 83 (f_mb (f_B s) pp i).toNat) (fun i hi => by have := f_mb_r (B := f_B s) pp i (by omega); exact hre _ (by omega)) P n (Nat.le_refl _)
  unfold f_SS
  omega
theorem m_set_V (d : Nat) (τ : TT) (h : HT) (hT : TK τ) (n pp : Nat) (s : Int) (hn : h 81 1 = n ∧ 3 ≤ n ∧ n ≤ 7) (hpp : pp ≤ 15) (hcn : f_cn (f_B s) pp = n) (hre : ∀ k : Nat, k < 15 → 0 ≤ h 83 k ∧ h 83 k ≤ 20) : ∀ (n_ : Nat) (g : HT) (v : Nat), f_P n n - v < n_ → v ≤ f_P n n → QS h g n pp s v → G_ mX12_findSet (d + 1) 0 0 141 [some (.inr (some 81)), some (.inl s), none, some (.inl ((f_P n n) : Int)), some (.inl (v : Int)), none, none] [] τ g (Zi τ fun v' h' => v' = 0 ∧ (∃ o : Nat → Int, MINP n (f_SS h n pp s) (f_P n n) o ∧ h' 81 54 = f_SS h n pp s o ∧ ∀ p : Nat, p < n → h' 120 p = f_mb (f_B s) pp (o p).toNat) ∧ FRs h h') := by
  intro n_
  induction n_ with
  | zero => intro g v hm_; exact absurd hm_ (Nat.not_lt_zero _)
  | succ n_ ih =>
    intro g v hm_ hv qs
    have X1 : g 81 1 = n := by rw [qs.1 81 1 (by decide) (by decide)]; exact hn.1
    have hPb := f_P_b n (by omega)
    have hbe : 0 ≤ g 81 54 ∧ g 81 54 ≤ 1000000 := by
      rcases qs.2.2 with ⟨z1, z2⟩ | ⟨o, z1, z2, z3⟩
      · omega
      · have := f_SS_r (h := h) (s := s) (by omega) hpp hcn hre z1.1; omega
    refine G_iload dX12_findSet_141 rfl ?_
    refine G_iload_n (i := 3) dX12_findSet_143 rfl rfl ?_
    refine G_icmp_ge (tgt := 287) dX12_findSet_144 (by decide) (by omega) (by omega) (fun c_1 => ?_) (fun c_1 => ?_)
    · refine G_iconst dX12_findSet_287 ?_
      refine G_iretZ rfl dX12_findSet_288 ?_
      refine ⟨rfl, ?_, qs.1⟩
      obtain rfl : v = f_P n n := by omega
      rcases qs.2.2 with ⟨z1, z2⟩ | z
      · omega
      · exact z
    · refine G_aload_n (i := 0) dX12_findSet_147 rfl rfl ?_
      refine G_iload dX12_findSet_148 rfl ?_
      refine G_aload_n (i := 0) dX12_findSet_150 rfl rfl ?_
      refine G_getR fX12_168 rfl dX12_findSet_151 (o81 hT) (r81_52 hT) ?_
      refine G_cVv (as := [.inl (v : Int), .inr (some 119)]) qX12_303 (m_unrank d τ g hT n ⟨X1, hn.2⟩ 119 (o119 hT) v (by decide) (by omega) (by omega)) rfl rfl (Nat.le_of_ble_eq_true rfl) (o81 hT) dX12_findSet_154 (fun g2 e2 => ?_)
      obtain ⟨P2, R2, f2⟩ := e2
      have X2 : g2 81 1 = n := (f2 81 1 (by decide) (by decide)).trans X1
      have m2 : ∀ i : Nat, i < n → g2 118 i = (f_mb (f_B s) pp) i := fun i hi => (f2 118 i (by decide) (by decide)).trans (qs.2.1 i hi)
      have r2 : FRs h g2 := qs.1.tr (fun b j b1 b2 => f2 b j (by omega) (by omega))
      have e54 : g2 81 54 = g 81 54 := f2 81 54 (by decide) (by decide)
      have h83 : ∀ j : Nat, g2 83 j = h 83 j := fun j => r2 83 j (by decide) (fun z => absurd z (by decide))
      have rS := f_SS_r (h := h) (s := s) (by omega) hpp hcn hre P2
      refine G_iconst dX12_findSet_157 ?_
      refine G_istore (ls' := [some (.inr (some 81)), some (.inl s), none, some (.inl ((f_P n n) : Int)), some (.inl (v : Int)), some (.inl 0), none]) dX12_findSet_158 (by decide) rfl ?_
      refine G_iconst dX12_findSet_160 ?_
      refine G_istore (ls' := [some (.inr (some 81)), some (.inl s), none, some (.inl ((f_P n n) : Int)), some (.inl (v : Int)), some (.inl 0), some (.inl 0)]) dX12_findSet_161 (by decide) rfl ?_
      suffices K : G_ mX12_findSet (d + 1) 0 0 226 [some (.inr (some 81)), some (.inl s), none, some (.inl ((f_P n n) : Int)), some (.inl (v : Int)), some (.inl (f_SS h n pp s (g2 119))), none] [] τ g2 (Zi τ fun v' h' => v' = 0 ∧ (∃ o : Nat → Int, MINP n (f_SS h n pp s) (f_P n n) o ∧ h' 81 54 = f_SS h n pp s o ∧ ∀ p : Nat, p < n → h' 120 p = f_mb (f_B s) pp (o p).toNat) ∧ FRs h h') by
        exact m_set_S d τ h hT _ g2 n pp s hn hpp hcn hre X2 P2 m2 h83 _ v K _ 0 (Nat.lt_succ_self _) (Nat.zero_le _)
      refine G_iload dX12_findSet_226 rfl ?_
      refine G_aload_n (i := 0) dX12_findSet_228 rfl rfl ?_
      refine G_getI (v := g 81 54) fX12_174 rfl dX12_findSet_229 (o81 hT) (e54) ?_
      refine G_icmp_lt (tgt := 238) dX12_findSet_232 (by decide) (by omega) (by omega) (fun c_2 => ?_) (fun c_2 => ?_)
      · refine G_aload_n (i := 0) dX12_findSet_238 rfl rfl ?_
        refine G_iload dX12_findSet_239 rfl ?_
        refine G_putI fX12_174 dX12_findSet_241 (o81 hT) ?_
        refine G_iconst dX12_findSet_244 ?_
        refine G_istore (ls' := [some (.inr (some 81)), some (.inl s), none, some (.inl ((f_P n n) : Int)), some (.inl (v : Int)), some (.inl (f_SS h n pp s (g2 119))), some (.inl 0)]) dX12_findSet_245 (by decide) rfl ?_
        have P3 : isP n ((hs_ g2 81 54 (f_SS h n pp s (g2 119))) 119) := isP_c (fun q hq => (hs_na (by decide)).symm) P2
        suffices K : G_ mX12_findSet (d + 1) 0 0 281 [some (.inr (some 81)), some (.inl s), none, some (.inl ((f_P n n) : Int)), some (.inl (v : Int)), none, none] [] τ (hf_ (hs_ g2 81 54 (f_SS h n pp s (g2 119))) 120 0 n (fun q => (f_mb (f_B s) pp) ((hs_ g2 81 54 (f_SS h n pp s (g2 119))) 119 q).toNat)) (Zi τ fun v' h' => v' = 0 ∧ (∃ o : Nat → Int, MINP n (f_SS h n pp s) (f_P n n) o ∧ h' 81 54 = f_SS h n pp s o ∧ ∀ p : Nat, p < n → h' 120 p = f_mb (f_B s) pp (o p).toNat) ∧ FRs h h') by
          have := m_set_C d τ h hT _ (hs_ g2 81 54 (f_SS h n pp s (g2 119))) n pp s hn hpp hcn hre ((hs_ni (by decide)).trans X2) P3 (fun i hi => (hs_na (by decide)).trans (m2 i hi)) _ v (f_SS h n pp s (g2 119)) K _ 0 (Nat.lt_succ_self _) (Nat.zero_le _)
          rw [hf_nil] at this
          exact this
        refine G_iinc (ls' := [some (.inr (some 81)), some (.inl s), none, some (.inl ((f_P n n) : Int)), some (.inl ((v : Int) + 1)), none, none]) dX12_findSet_281 (by decide) rfl rfl ?_
        refine G_goto (tgt := 141) dX12_findSet_284 (by decide) ?_
        refine G_lsub (ls' := [some (.inr (some 81)), some (.inl s), none, some (.inl ((f_P n n) : Int)), some (.inl ((v : Int) + 1)), none, none]) (LS_same (LS_same (LS_none (LS_same (LS_same (LS_none (LS_none LS_nil))))))) ?_
        refine ih _ (v + 1) (by omega) (by omega) ⟨r2.tr (fun b j b1 b2 => by rw [hf_na (by omega)]; unfold hs_; rw [if_neg (fun z => b2 z.1 z.2)]), fun i hi => by rw [hf_na (by decide), hs_na (by decide)]; exact m2 i hi, Or.inr ⟨g2 119, ?_, by rw [hf_na (by decide), hs_eq], fun p hp => by rw [hf_in ⟨Nat.zero_le _, hp⟩, hs_na (by decide)]⟩⟩
        rcases qs.2.2 with ⟨z1, z2⟩ | ⟨o, z1, z2, z3⟩
        · subst z1; exact MINP_0 (f_SS_c h n pp s) P2 R2
        · exact (MINP_s (f_SS_c h n pp s) z1 P2 R2).1 (by omega)
      · refine G_goto (tgt := 281) dX12_findSet_235 (by decide) ?_
        refine G_iinc (ls' := [some (.inr (some 81)), some (.inl s), none, some (.inl ((f_P n n) : Int)), some (.inl ((v : Int) + 1)), some (.inl (f_SS h n pp s (g2 119))), none]) dX12_findSet_281 (by decide) rfl rfl ?_
        refine G_goto (tgt := 141) dX12_findSet_284 (by decide) ?_
        refine G_lsub (ls' := [some (.inr (some 81)), some (.inl s), none, some (.inl ((f_P n n) : Int)), some (.inl ((v : Int) + 1)), none, none]) (LS_same (LS_same (LS_none (LS_same (LS_same (LS_none (LS_none LS_nil))))))) ?_
        refine ih _ (v + 1) (by omega) (by omega) ⟨r2, m2, ?_⟩
        rcases qs.2.2 with ⟨z1, z2⟩ | ⟨o, z1, z2, z3⟩
        · exfalso; omega
        · exact Or.inr ⟨o, (MINP_s (f_SS_c h n pp s) z1 P2 R2).2 (by omega), by omega, fun p hp => (f2 120 p (by decide) (by decide)).trans (z3 p hp)⟩

theorem m_set_A (d : Nat) (τ : TT) (h : HT) (hT : TK τ) (Z : ZT) (n : Nat) (hn : h 81 1 = n ∧ 3 ≤ n ∧ n ≤ 7) (s : Int) (K : G_ mX12_findSet (d + 1) 0 0 131 [some (.inr (some 81)), some (.inl s), none, some (.inl ((f_P n n) : Int)), none, none, none] [] τ h (Z)) : ∀ (n_ : Nat) (j : Nat), n - j < n_ → j ≤ n → G_ mX12_findSet (d + 1) 0 0 111 [some (.inr (some 81)), some (.inl s), none, some (.inl ((f_fa j) : Int)), some (.inl ((j + 1) : Int)), none, none] [] τ h (Z) := by
  intro n_
  induction n_ with
  | zero => intro j hm_; exact absurd hm_ (Nat.not_lt_zero _)
  | succ n_ ih =>
    intro j hm_ hj
    refine G_iload dX12_findSet_111 rfl ?_
    refine G_aload_n (i := 0) dX12_findSet_113 rfl rfl ?_
    refine G_getI (v := h 81 1) fX12_13 rfl dX12_findSet_114 (o81 hT) rfl ?_
    refine G_icmp_gt (tgt := 131) dX12_findSet_117 (by decide) (by omega) (by omega) (fun c_1 => ?_) (fun c_1 => ?_)
    · refine G_lsub (ls' := [some (.inr (some 81)), some (.inl s), none, some (.inl ((f_fa j) : Int)), none, none, none]) (LS_same (LS_same (LS_none (LS_same (LS_none (LS_none (LS_none LS_nil))))))) ?_
      obtain rfl : j = n := by omega
      rw [f_fa_P j (by omega)]
      exact K
    · refine G_iload_n (i := 3) dX12_findSet_120 rfl rfl ?_
      refine G_iload dX12_findSet_121 rfl ?_
      refine G_imul dX12_findSet_123 ?_
      refine G_istore_n (i := 3) (ls' := [some (.inr (some 81)), some (.inl s), none, some (.inl (((f_fa j) : Int) * ((j + 1) : Int))), some (.inl ((j + 1) : Int)), none, none]) dX12_findSet_124 rfl (by decide) rfl ?_
      refine G_iinc (ls' := [some (.inr (some 81)), some (.inl s), none, some (.inl (((f_fa j) : Int) * ((j + 1) : Int))), some (.inl (((j + 1) : Int) + 1)), none, none]) dX12_findSet_125 (by decide) rfl rfl ?_
      refine G_goto (tgt := 111) dX12_findSet_128 (by decide) ?_
      exact ih (j + 1) (by omega) (by omega)

def f_sok (h : HT) (n pp : Nat) (s : Int) : Prop := 0 ≤ s ∧ b_shr s (pp : Int) = 0 ∧ (∀ j : Nat, j < pp → f_B s j ≠ 0 → h 82 j ≠ 4) ∧ f_cn (f_B s) pp = n
theorem m_set_Q (d : Nat) (τ : TT) (h : HT) (hT : TK τ) (n pp : Nat) (s : Int) (hs : 0 ≤ s ∧ b_shr s (pp : Int) = 0) (hn : h 81 1 = n ∧ 3 ≤ n ∧ n ≤ 7) (hpp : h 81 0 = pp ∧ pp ≤ 15) (x : MI h) : ∀ (n_ : Nat) (g : HT) (k : Nat), pp - k < n_ → k ≤ pp → f_cn (f_B s) k ≤ n → (∀ i : Nat, i < f_cn (f_B s) k → g 118 i = f_mb (f_B s) k i) → (∀ j : Nat, j < k → f_B s j ≠ 0 → h 82 j ≠ 4) → FRs h g → G_ mX12_findSet (d + 1) 0 0 39 [some (.inr (some 81)), some (.inl s), some (.inl ((f_cn (f_B s) k) : Int)), some (.inl (k : Int)), none, none, none] [] τ g (Zi τ fun v' h' => (¬ f_sok h n pp s → v' = -2) ∧ (f_sok h n pp s → v' = 0 ∧ ∃ o : Nat → Int, MINP n (f_SS h n pp s) (f_P n n) o ∧ h' 81 54 = f_SS h n pp s o ∧ ∀ p : Nat, p < n → h' 120 p = f_mb (f_B s) pp (o p).toNat) ∧ FRs h h') := by
  intro n_
  induction n_ with
  | zero => intro g k hm_; exact absurd hm_ (Nat.not_lt_zero _)
  | succ n_ ih =>
    intro g k hm_ hk hmn hm hk4 fr
    have X1 : g 81 1 = n := by rw [fr 81 1 (by decide) (by decide)]; exact hn.1
    have X0 : g 81 0 = pp := by rw [fr 81 0 (by decide) (by decide)]; exact hpp.1
    refine G_iload_n (i := 3) dX12_findSet_39 rfl rfl ?_
    refine G_aload_n (i := 0) dX12_findSet_40 rfl rfl ?_
    refine G_getI (v := g 81 0) fX12_7 rfl dX12_findSet_41 (o81 hT) rfl ?_
    refine G_icmp_ge (tgt := 95) dX12_findSet_44 (by decide) (by omega) (by omega) (fun c_1 => ?_) (fun c_1 => ?_)
    · refine G_iload_n (i := 2) dX12_findSet_95 rfl rfl ?_
      refine G_aload_n (i := 0) dX12_findSet_96 rfl rfl ?_
      refine G_getI (v := g 81 1) fX12_13 rfl dX12_findSet_97 (o81 hT) rfl ?_
      refine G_icmp_eq (tgt := 106) dX12_findSet_100 (by decide) (by omega) (by omega) (fun c_2 => ?_) (fun c_2 => ?_)
      · refine G_iconst dX12_findSet_106 ?_
        refine G_istore_n (i := 3) (ls' := [some (.inr (some 81)), some (.inl s), some (.inl ((f_cn (f_B s) k) : Int)), some (.inl 1), none, none, none]) dX12_findSet_107 rfl (by decide) rfl ?_
        refine G_iconst dX12_findSet_108 ?_
        refine G_istore (ls' := [some (.inr (some 81)), some (.inl s), some (.inl ((f_cn (f_B s) k) : Int)), some (.inl 1), some (.inl 2), none, none]) dX12_findSet_109 (by decide) rfl ?_
        obtain rfl : k = pp := by omega
        have hcn : f_cn (f_B s) k = n := by omega
        have sok : f_sok h n k s := ⟨hs.1, hs.2, hk4, hcn⟩
        suffices K : G_ mX12_findSet (d + 1) 0 0 131 [some (.inr (some 81)), some (.inl s), none, some (.inl ((f_P n n) : Int)), none, none, none] [] τ g (Zi τ fun v' h' => (¬ f_sok h n k s → v' = -2) ∧ (f_sok h n k s → v' = 0 ∧ ∃ o : Nat → Int, MINP n (f_SS h n k s) (f_P n n) o ∧ h' 81 54 = f_SS h n k s o ∧ ∀ p : Nat, p < n → h' 120 p = f_mb (f_B s) k (o p).toNat) ∧ FRs h h') by
          exact G_lsub (LS_same (LS_same (LS_none (LS_same (LS_same (LS_same (LS_same LS_nil))))))) (m_set_A d τ g hT _ n ⟨X1, hn.2⟩ s K _ 1 (Nat.lt_succ_self _) (by omega))
        refine G_aload_n (i := 0) dX12_findSet_131 rfl rfl ?_
        refine G_ldcw (n := 1000000) nX12_316 dX12_findSet_132 ?_
        refine G_putI fX12_174 dX12_findSet_135 (o81 hT) ?_
        refine G_iconst dX12_findSet_138 ?_
        refine G_istore (ls' := [some (.inr (some 81)), some (.inl s), none, some (.inl ((f_P n n) : Int)), some (.inl 0), none, none]) dX12_findSet_139 (by decide) rfl ?_
        refine G_mono ?_ (m_set_V d τ h hT n k s hn hpp.2 hcn x.re_ _ _ 0 (Nat.lt_succ_self _) (Nat.zero_le _) ⟨fr.tr (fun b j b1 b2 => by unfold hs_; rw [if_neg (fun z => b2 z.1 z.2)]), fun i hi => by rw [hs_na (by decide)]; exact hm i (by omega), Or.inl ⟨rfl, hs_eq⟩⟩)
        rintro r τ' h' ⟨q1, v, q2, q3, q4, q5⟩
        exact ⟨q1, v, q2, fun z => absurd sok z, fun _ => ⟨q3, q4⟩, q5⟩
      · refine G_bipush dX12_findSet_103 (by decide) ?_
        refine G_iretZ rfl dX12_findSet_105 ?_
        obtain rfl : k = pp := by omega
        refine ⟨fun _ => rfl, fun z => absurd z.2.2.2 (by omega), fr⟩
    · refine G_iload_n (i := 1) dX12_findSet_47 rfl rfl ?_
      refine G_iload_n (i := 3) dX12_findSet_48 rfl rfl ?_
      refine G_ishr dX12_findSet_49 ?_
      refine G_iconst dX12_findSet_50 ?_
      refine G_iand dX12_findSet_51 ?_
      have hbr := b_and_r (b_shr s (k : Int)) 1
      have eB : b_and (b_shr s (k : Int)) 1 = f_B s k := rfl
      have ec : f_cn (f_B s) (k + 1) = f_cn (f_B s) k + if f_B s k = 0 then 0 else 1 := rfl
      have em : ∀ i : Nat, f_mb (f_B s) (k + 1) i = if f_B s k ≠ 0 ∧ i = f_cn (f_B s) k then (k : Int) else f_mb (f_B s) k i := fun i => rfl
      refine G_if_ne (tgt := 58) dX12_findSet_52 (by decide) (by omega) (fun c_3 => ?_) (fun c_3 => ?_)
      · refine G_aload_n (i := 0) dX12_findSet_58 rfl rfl ?_
        refine G_getR fX12_16 rfl dX12_findSet_59 (o81 hT) (r81_2 hT) ?_
        refine G_iload_n (i := 3) dX12_findSet_62 rfl rfl ?_
        refine G_iald (v := h 82 k) dX12_findSet_63 (o82 hT) (by omega) (fr 82 k (by decide) (fun z => absurd z (by decide))) ?_
        have k82 := x.ki_ k (by omega)
        refine G_iconst dX12_findSet_64 ?_
        refine G_icmp_eq (tgt := 76) dX12_findSet_65 (by decide) (by omega) (by decide) (fun c_4 => ?_) (fun c_4 => ?_)
        · refine G_bipush dX12_findSet_76 (by decide) ?_
          refine G_iretZ rfl dX12_findSet_78 ?_
          refine ⟨fun _ => rfl, fun z => absurd ?_ (z.2.2.1 k (by omega) (by omega)), fr⟩
          first | assumption | omega
        · refine G_iload_n (i := 2) dX12_findSet_68 rfl rfl ?_
          refine G_aload_n (i := 0) dX12_findSet_69 rfl rfl ?_
          refine G_getI (v := g 81 1) fX12_13 rfl dX12_findSet_70 (o81 hT) rfl ?_
          refine G_icmp_ne (tgt := 79) dX12_findSet_73 (by decide) (by omega) (by omega) (fun c_5 => ?_) (fun c_5 => ?_)
          · refine G_aload_n (i := 0) dX12_findSet_79 rfl rfl ?_
            refine G_getR fX12_165 rfl dX12_findSet_80 (o81 hT) (r81_51 hT) ?_
            refine G_iload_n (i := 2) dX12_findSet_83 rfl rfl ?_
            refine G_iload_n (i := 3) dX12_findSet_84 rfl rfl ?_
            refine G_iastk (f_cn (f_B s) k) dX12_findSet_85 (o118 hT) (by omega) rfl ?_
            refine G_iinc (ls' := [some (.inr (some 81)), some (.inl s), some (.inl (((f_cn (f_B s) k) : Int) + 1)), some (.inl (k : Int)), none, none, none]) dX12_findSet_86 (by decide) rfl rfl ?_
            refine G_iinc (ls' := [some (.inr (some 81)), some (.inl s), some (.inl (((f_cn (f_B s) k) : Int) + 1)), some (.inl ((k : Int) + 1)), none, none, none]) dX12_findSet_89 (by decide) rfl rfl ?_
            refine G_goto (tgt := 39) dX12_findSet_92 (by decide) ?_
            rw [if_neg (by omega)] at ec
            have G := ih (hs_ g 118 (f_cn (f_B s) k) (k : Int)) (k + 1) (by omega) (by omega) (by omega) (fun i hi => by rw [em]; unfold hs_; by_cases z : i = f_cn (f_B s) k; (rw [if_pos ⟨rfl, z⟩, if_pos ⟨by omega, z⟩]); (rw [if_neg (fun y => z y.2), if_neg (fun y => z y.2)]; exact hm i (by omega))) (fun j hj hb => by rcases Nat.lt_succ_iff_lt_or_eq.mp hj with z | z; exact hk4 j z hb; (subst z; assumption)) (fr.tr (fun b j b1 b2 => hs_na (by omega)))
            rw [ec] at G
            exact G
          · refine G_bipush dX12_findSet_76 (by decide) ?_
            refine G_iretZ rfl dX12_findSet_78 ?_
            refine ⟨fun _ => rfl, fun z => ?_, fr⟩
            have z4 := z.2.2.2
            rw [if_neg (by omega)] at ec
            have := f_cn_m (f_B s) (k + 1) (pp - (k + 1))
            rw [show k + 1 + (pp - (k + 1)) = pp by omega] at this
            omega
      · refine G_goto (tgt := 89) dX12_findSet_55 (by decide) ?_
        refine G_iinc (ls' := [some (.inr (some 81)), some (.inl s), some (.inl ((f_cn (f_B s) k) : Int)), some (.inl ((k : Int) + 1)), none, none, none]) dX12_findSet_89 (by decide) rfl rfl ?_
        refine G_goto (tgt := 39) dX12_findSet_92 (by decide) ?_
        rw [if_pos (by omega), Nat.add_zero] at ec
        have := ih g (k + 1) (by omega) (by omega) (by omega) (fun i hi => by rw [em, if_neg (fun z => z.1 (by omega))]; exact hm i (by omega)) (fun j hj hb => by rcases Nat.lt_succ_iff_lt_or_eq.mp hj with z | z; exact hk4 j z hb; (subst z; exact absurd (by omega) hb)) fr
        rw [ec] at this
        exact this

theorem m_findSet (d : Nat) (τ : TT) (h : HT) (hT : TK τ) (s : Int) (r_s : -2147483648 ≤ s ∧ s ≤ 2147483647) (x : MI h) (n pp : Nat) (hn : h 81 1 = n) (hpp : h 81 0 = pp) : S_ mX12_findSet (d + 1) 0 0 [.inr (some 81), .inl s] τ h (Zi τ fun v' h' => ((h 81 1 = 0 ∨ 7 < h 81 1) → v' = -3) ∧ (¬ (h 81 1 = 0 ∨ 7 < h 81 1) → (¬ f_sok h n pp s → v' = -2) ∧ (f_sok h n pp s → v' = 0 ∧ ∃ o : Nat → Int, MINP n (f_SS h n pp s) (f_P n n) o ∧ h' 81 54 = f_SS h n pp s o ∧ ∀ p : Nat, p < n → h' 120 p = f_mb (f_B s) pp (o p).toNat)) ∧ FRs h h') := by
  have hn9 := x.n_
  have hp15 := x.p_
  refine S_go (k := 5) (ls := [some (.inr (some 81)), some (.inl s), none, none, none, none, none]) (by decide) rfl (Nat.le_of_ble_eq_true rfl) rfl ?_
  refine G_aload_n (i := 0) dX12_findSet_0 rfl rfl ?_
  refine G_getI (v := h 81 1) fX12_13 rfl dX12_findSet_1 (o81 hT) rfl ?_
  refine G_if_eq (tgt := 16) dX12_findSet_4 (by decide) (by omega) (fun c_1 => ?_) (fun c_1 => ?_)
  · refine G_bipush dX12_findSet_16 (by decide) ?_
    refine G_iretZ rfl dX12_findSet_18 ?_
    exact ⟨fun _ => rfl, fun z => absurd (by omega) z, FRs.rf⟩
  · refine G_aload_n (i := 0) dX12_findSet_7 rfl rfl ?_
    refine G_getI (v := h 81 1) fX12_13 rfl dX12_findSet_8 (o81 hT) rfl ?_
    refine G_bipush dX12_findSet_11 (by decide) ?_
    refine G_icmp_le (tgt := 19) dX12_findSet_13 (by decide) (by omega) (by decide) (fun c_2 => ?_) (fun c_2 => ?_)
    · refine G_iload_n (i := 1) dX12_findSet_19 rfl rfl ?_
      refine G_if_lt (tgt := 32) dX12_findSet_20 (by decide) (by omega) (fun c_3 => ?_) (fun c_3 => ?_)
      · refine G_bipush dX12_findSet_32 (by decide) ?_
        refine G_iretZ rfl dX12_findSet_34 ?_
        exact ⟨fun z => absurd z (by omega), fun _ => ⟨fun _ => rfl, fun z => by have z1 := z.1; have z2 := z.2.1; rw [← hpp] at z2; omega⟩, FRs.rf⟩
      · refine G_iload_n (i := 1) dX12_findSet_23 rfl rfl ?_
        refine G_aload_n (i := 0) dX12_findSet_24 rfl rfl ?_
        refine G_getI (v := h 81 0) fX12_7 rfl dX12_findSet_25 (o81 hT) rfl ?_
        refine G_ishr dX12_findSet_28 ?_
        have hsr := b_shr_r s (h 81 0)
        refine G_if_eq (tgt := 35) dX12_findSet_29 (by decide) (by omega) (fun c_4 => ?_) (fun c_4 => ?_)
        · refine G_iconst dX12_findSet_35 ?_
          refine G_istore_n (i := 2) (ls' := [some (.inr (some 81)), some (.inl s), some (.inl 0), none, none, none, none]) dX12_findSet_36 rfl (by decide) rfl ?_
          refine G_iconst dX12_findSet_37 ?_
          refine G_istore_n (i := 3) (ls' := [some (.inr (some 81)), some (.inl s), some (.inl 0), some (.inl 0), none, none, none]) dX12_findSet_38 rfl (by decide) rfl ?_
          refine G_mono ?_ (m_set_Q d τ h hT n pp s ⟨by omega, by rw [← hpp]; omega⟩ ⟨hn, by omega, by omega⟩ ⟨hpp, by omega⟩ x _ h 0 (Nat.lt_succ_self _) (Nat.zero_le _) (Nat.zero_le _) (fun i hi => absurd hi (Nat.not_lt_zero _)) (fun j hj => absurd hj (Nat.not_lt_zero _)) FRs.rf)
          rintro r τ' h' ⟨q1, v, q2, q3, q4, q5⟩
          exact ⟨q1, v, q2, fun z => absurd z (by omega), fun _ => ⟨q3, q4⟩, q5⟩
        · refine G_bipush dX12_findSet_32 (by decide) ?_
          refine G_iretZ rfl dX12_findSet_34 ?_
          exact ⟨fun z => absurd z (by omega), fun _ => ⟨fun _ => rfl, fun z => by have z1 := z.1; have z2 := z.2.1; rw [← hpp] at z2; omega⟩, FRs.rf⟩
    · refine G_bipush dX12_findSet_16 (by decide) ?_
      refine G_iretZ rfl dX12_findSet_18 ?_
      exact ⟨fun _ => rfl, fun z => absurd (by omega) z, FRs.rf⟩

theorem m_set (d : Nat) (τ : TT) (h : HT) (hT : TK τ) (s w : Int) (r_s : -2147483648 ≤ s ∧ s ≤ 2147483647) (r_w : -2147483648 ≤ w ∧ w ≤ 2147483647) (x : MI h) (n pp : Nat) (hn : h 81 1 = n) (hpp : h 81 0 = pp) : S_ mX12_set (d + 2) 0 0 [.inr (some 81), .inl s, .inl w] τ h (Zi τ fun v' h' => ((h 81 1 = 0 ∨ 7 < h 81 1) → v' = -3) ∧ (¬ (h 81 1 = 0 ∨ 7 < h 81 1) → (¬ f_sok h n pp s → v' = -2) ∧ (f_sok h n pp s → ∃ o : Nat → Int, MINP n (f_SS h n pp s) (f_P n n) o ∧ v' = if w = -1 then f_SS h n pp s o else if 0 ≤ w ∧ w < n then f_mb (f_B s) pp (o w.toNat).toNat else -1)) ∧ FRs h h') := by
  have hn9 := x.n_
  have hp15 := x.p_
  refine S_go (k := 1) (ls := [some (.inr (some 81)), some (.inl s), some (.inl w), none]) (by decide) rfl (Nat.le_of_ble_eq_true rfl) rfl ?_
  refine G_aload_n (i := 0) dX12_set_0 rfl rfl ?_
  refine G_iload_n (i := 1) dX12_set_1 rfl rfl ?_
  refine G_cVi (as := [.inl s]) qX12_317 (m_findSet d τ h hT s r_s x n pp hn hpp) rfl rfl (Nat.le_of_ble_eq_true rfl) (o81 hT) dX12_set_2 (fun v1 g e1 => ?_)
  obtain ⟨n1, n2, fr⟩ := e1
  have hv : v1 = -3 ∨ v1 = -2 ∨ v1 = 0 := by by_cases z : h 81 1 = 0 ∨ 7 < h 81 1; exact Or.inl (n1 z); (by_cases y : f_sok h n pp s; exact Or.inr (Or.inr ((n2 z).2 y).1); exact Or.inr (Or.inl ((n2 z).1 y)))
  have X1 : g 81 1 = n := by rw [fr 81 1 (by decide) (by decide)]; exact hn
  refine G_istore_n (i := 3) (ls' := [some (.inr (some 81)), some (.inl s), some (.inl w), some (.inl v1)]) dX12_set_5 rfl (by decide) rfl ?_
  refine G_iload_n (i := 3) dX12_set_6 rfl rfl ?_
  refine G_if_eq (tgt := 12) dX12_set_7 (by decide) (by omega) (fun c_1 => ?_) (fun c_1 => ?_)
  · refine G_iload_n (i := 2) dX12_set_12 rfl rfl ?_
    refine G_iconst dX12_set_13 ?_
    refine G_icmp_ne (tgt := 24) dX12_set_14 (by decide) (by omega) (by decide) (fun c_2 => ?_) (fun c_2 => ?_)
    · refine G_aload_n (i := 0) dX12_set_24 rfl rfl ?_
      refine G_iload_n (i := 2) dX12_set_25 rfl rfl ?_
      refine G_iconst dX12_set_26 ?_
      refine G_aload_n (i := 0) dX12_set_27 rfl rfl ?_
      refine G_getI (v := g 81 1) fX12_13 rfl dX12_set_28 (o81 hT) rfl ?_
      refine G_iconst dX12_set_31 ?_
      refine G_isub dX12_set_32 ?_
      refine G_cVq (as := [.inl w, .inl 0, .inl ((g 81 1) - 1)]) qX12_195 (m_in (d + 1) τ _ 81 w 0 ((g 81 1) - 1) (by omega) (by decide) (by omega)) rfl rfl (Nat.le_of_ble_eq_true rfl) (o81 hT) dX12_set_33 ?_
      refine G_ifb_eq (tgt := 48) dX12_set_36 (by decide) (fun c_3 => ?_) (fun c_3 => ?_)
      · refine G_iconst dX12_set_48 ?_
        refine G_iretZ rfl dX12_set_49 ?_
        refine ⟨fun z => absurd (n1 z) (by omega), fun z => ⟨fun y => absurd ((n2 z).1 y) (by omega), fun y => ?_⟩, fr⟩
        obtain ⟨_, o, m1, m2, m3⟩ := (n2 z).2 y
        refine ⟨o, m1, ?_⟩
        rw [if_neg (by omega), if_neg (by omega)]
      · refine G_aload_n (i := 0) dX12_set_39 rfl rfl ?_
        refine G_getR fX12_171 rfl dX12_set_40 (o81 hT) (r81_53 hT) ?_
        refine G_iload_n (i := 2) dX12_set_43 rfl rfl ?_
        refine G_iald (v := g 120 ((w).toNat)) dX12_set_44 (o120 hT) (by omega) rfl ?_
        refine G_goto (tgt := 49) dX12_set_45 (by decide) ?_
        refine G_iretZ rfl dX12_set_49 ?_
        refine ⟨fun z => absurd (n1 z) (by omega), fun z => ⟨fun y => absurd ((n2 z).1 y) (by omega), fun y => ?_⟩, fr⟩
        obtain ⟨_, o, m1, m2, m3⟩ := (n2 z).2 y
        refine ⟨o, m1, ?_⟩
        rw [if_neg (by omega), if_pos (by omega)]; exact m3 w.toNat (by omega)
    · refine G_aload_n (i := 0) dX12_set_17 rfl rfl ?_
      refine G_getI (v := g 81 54) fX12_174 rfl dX12_set_18 (o81 hT) rfl ?_
      refine G_goto (tgt := 49) dX12_set_21 (by decide) ?_
      refine G_iretZ rfl dX12_set_49 ?_
      refine ⟨fun z => absurd (n1 z) (by omega), fun z => ⟨fun y => absurd ((n2 z).1 y) (by omega), fun y => ?_⟩, fr⟩
      obtain ⟨_, o, m1, m2, m3⟩ := (n2 z).2 y
      refine ⟨o, m1, ?_⟩
      rw [if_pos (by omega)]; exact m2
  · refine G_iload_n (i := 3) dX12_set_10 rfl rfl ?_
    refine G_iretZ rfl dX12_set_11 ?_
    refine ⟨n1, fun z => ⟨(n2 z).1, fun y => absurd ((n2 z).2 y).1 (by omega)⟩, fr⟩

def f_mx (c : Nat → Int) : Nat → Int
  | 0 => 0
  | p + 1 => if c p ≤ f_mx c p then f_mx c p else c p
abbrev XT : Type := Int × (Nat → Int)
def sp_st (n : Nat) (mo : Int) (X : XT) (s : Int) : Option XT := if 100 ≤ s then some (X.1 + mo, fun j => X.2 (f_rot n (s - 100) j)) else if (n : Int) ≤ s.tdiv 10 then none else some (X.1 + (X.2 (s.tdiv 10).toNat + X.2 (f_ny n (s.tdiv 10).toNat)), f_sw n X.2 (s.tdiv 10).toNat)
def sp_run (n : Nat) (mo : Int) (c : Nat → Int) (S : Nat → Int) : Nat → Option XT
  | 0 => some (0, c)
  | k + 1 => (sp_run n mo c S k).bind fun X => sp_st n mo X (S k)
theorem sp_no {n : Nat} {mo : Int} {c S : Nat → Int} {k : Nat} (q : sp_run n mo c S k = none) : ∀ j : Nat, sp_run n mo c S (k + j) = none
  | 0 => q
  | j + 1 => by
    show (sp_run n mo c S (k + j)).bind _ = none
    rw [sp_no q j]; rfl
theorem sp_s {n : Nat} {mo : Int} {c S : Nat → Int} {k : Nat} {X : XT} (q : sp_run n mo c S k = some X) : sp_run n mo c S (k + 1) = sp_st n mo X (S k) := by
  show (sp_run n mo c S k).bind _ = _
  rw [q]; rfl
