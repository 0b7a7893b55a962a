/-! the reference: what a set spends in a figure -/
def f_spv (r : Option XT) : Int := match r with
  | none => -3
  | some X => X.1
theorem f_mx_r {c : Nat → Int} {n : Nat} (hc : ∀ q : Nat, q < n → 0 ≤ c q ∧ c q ≤ 9) : ∀ p : Nat, p ≤ n → 0 ≤ f_mx c p ∧ f_mx c p ≤ 9
  | 0, _ => ⟨Int.le_refl 0, (show (0 : Int) ≤ 9 by decide)⟩
  | p + 1, hp => by
    have := f_mx_r hc p (by omega)
    have := hc p (by omega)
    show 0 ≤ (if c p ≤ f_mx c p then f_mx c p else c p) ∧ (if c p ≤ f_mx c p then f_mx c p else c p) ≤ 9
    split <;> omega
theorem sp_none {n : Nat} {mo : Int} {c S : Nat → Int} {k m : Nat} (q : sp_run n mo c S k = none) (hk : k ≤ m) : sp_run n mo c S m = none := by
  have := sp_no q (m - k)
  rwa [show k + (m - k) = m by omega] at this
theorem m_spent_M (d : Nat) (τ : TT) (hT : TK τ) (h : HT) (Z : ZT) (g : HT) (n F : Nat) (s : Int) (hn : h 81 1 = n ∧ 3 ≤ n ∧ n ≤ 7) (hg1 : g 81 1 = n) (h84 : ∀ j : Nat, g 84 j = h 84 j) (hB : ∀ q : Nat, q < n → 0 ≤ g 120 q ∧ g 120 q < 15) (C : Nat → Int) (hC : ∀ q : Nat, q < n → h 84 (g 120 q).toNat = C q) (hCr : ∀ q : Nat, q < n → 0 ≤ C q ∧ C q ≤ 9) (K : G_ mX12_spent (d + 2) 0 0 82 [some (.inr (some 81)), some (.inl s), some (.inl (F : Int)), none, some (.inl 0), some (.inl (f_mx C n)), none, none, none] [] τ g (Z)) : ∀ (n_ : Nat) (p : Nat), n - p < n_ → p ≤ n → G_ mX12_spent (d + 2) 0 0 31 [some (.inr (some 81)), some (.inl s), some (.inl (F : Int)), none, some (.inl 0), some (.inl (f_mx C p)), some (.inl (p : Int)), none, none] [] τ g (Z) := by
  intro n_
  induction n_ with
  | zero => intro p hm_; exact absurd hm_ (Nat.not_lt_zero _)
  | succ n_ ih =>
    intro p hm_ hp
    have r_ := f_mx_r hCr p hp
    refine G_iload dX12_spent_31 rfl ?_
    refine G_aload_n (i := 0) dX12_spent_33 rfl rfl ?_
    refine G_getI (v := (n : Int)) fX12_13 rfl dX12_spent_34 (o81 hT) (hg1) ?_
    refine G_icmp_ge (tgt := 82) dX12_spent_37 (by decide) (by omega) (by omega) (fun c_1 => ?_) (fun c_1 => ?_)
    · refine G_lsub (ls' := [some (.inr (some 81)), some (.inl s), some (.inl (F : Int)), none, some (.inl 0), some (.inl (f_mx C p)), none, none, none]) (LS_same (LS_same (LS_same (LS_none (LS_same (LS_same (LS_none (LS_none (LS_none LS_nil))))))))) ?_
      obtain rfl : p = n := by omega
      exact K
    · refine G_aload_n (i := 0) dX12_spent_40 rfl rfl ?_
      refine G_getR fX12_23 rfl dX12_spent_41 (o81 hT) (r81_4 hT) ?_
      refine G_aload_n (i := 0) dX12_spent_44 rfl rfl ?_
      refine G_getR fX12_171 rfl dX12_spent_45 (o81 hT) (r81_53 hT) ?_
      refine G_iload dX12_spent_48 rfl ?_
      refine G_iald (v := g 120 p) dX12_spent_50 (o120 hT) (by omega) rfl ?_
      have o_ := hB p (by omega)
      refine G_iald (v := C p) dX12_spent_51 (o84 hT) (by omega) (((h84 _).trans (hC p (by omega)))) ?_
      have q_ := hCr p (by omega)
      refine G_iload dX12_spent_52 rfl ?_
      suffices K_4 : ∀ x_3 : Int, x_3 = (if (C p) ≤ (f_mx C p) then f_mx C p else C p) → G_ mX12_spent (d + 2) 0 0 74 [some (.inr (some 81)), some (.inl s), some (.inl (F : Int)), none, some (.inl 0), some (.inl (f_mx C p)), some (.inl (p : Int)), none, none] [.inl x_3] τ g (Z) by
        refine G_icmp_le (tgt := 72) dX12_spent_54 (by decide) (by omega) (by omega) (fun c_2 => ?_) (fun c_2 => ?_)
        · refine G_iload dX12_spent_72 rfl ?_
          exact K_4 _ (if_pos c_2).symm
        · refine G_aload_n (i := 0) dX12_spent_57 rfl rfl ?_
          refine G_getR fX12_23 rfl dX12_spent_58 (o81 hT) (r81_4 hT) ?_
          refine G_aload_n (i := 0) dX12_spent_61 rfl rfl ?_
          refine G_getR fX12_171 rfl dX12_spent_62 (o81 hT) (r81_53 hT) ?_
          refine G_iload dX12_spent_65 rfl ?_
          refine G_iald (v := g 120 p) dX12_spent_67 (o120 hT) (by omega) rfl ?_
          have o_ := hB p (by omega)
          refine G_iald (v := C p) dX12_spent_68 (o84 hT) (by omega) (((h84 _).trans (hC p (by omega)))) ?_
          have q_ := hCr p (by omega)
          refine G_goto (tgt := 74) dX12_spent_69 (by decide) ?_
          exact K_4 _ (if_neg c_2).symm
      intro x_3 ex_3
      refine G_istore (ls' := [some (.inr (some 81)), some (.inl s), some (.inl (F : Int)), none, some (.inl 0), some (.inl x_3), some (.inl (p : Int)), none, none]) dX12_spent_74 (by decide) rfl ?_
      refine G_iinc (ls' := [some (.inr (some 81)), some (.inl s), some (.inl (F : Int)), none, some (.inl 0), some (.inl x_3), some (.inl ((p : Int) + 1)), none, none]) dX12_spent_76 (by decide) rfl rfl ?_
      refine G_goto (tgt := 31) dX12_spent_79 (by decide) ?_
      subst ex_3
      exact ih (p + 1) (by omega) (by omega)

theorem m_spent_L (d : Nat) (τ : TT) (h : HT) (hT : TK τ) (n F : Nat) (s : Int) (hn : h 81 1 = n ∧ 3 ≤ n ∧ n ≤ 7) (x : MI h) (hf2 : (F : Int) < h 81 26) (mo : Int) (C : Nat → Int) : ∀ (n_ : Nat) (g : HT) (k : Nat) (X : XT), (h 102 F).toNat - k < n_ → sp_run n mo C (fun k => h 103 (300 * F + k)) k = some X → (∀ q : Nat, q < n → (0 ≤ g 120 q ∧ g 120 q < 15) ∧ h 84 (g 120 q).toNat = X.2 q) → FRs h g → (k : Int) ≤ h 102 F → G_ mX12_spent (d + 2) 0 0 85 [some (.inr (some 81)), some (.inl s), some (.inl (F : Int)), none, some (.inl X.1), some (.inl mo), some (.inl (k : Int)), none, none] [] τ g (Zi τ fun v h' => v = f_spv (sp_run n mo C (fun k => h 103 (300 * F + k)) (h 102 F).toNat) ∧ FRs h h') := by
  intro n_
  induction n_ with
  | zero => intro g k X hm_; exact absurd hm_ (Nat.not_lt_zero _)
  | succ n_ ih =>
    intro g k X hm_ hX rw_ fr hk
    have X1 : g 81 1 = n := by rw [fr 81 1 (by decide) (by decide)]; exact hn.1
    have hm := x.ma_ F hf2
    have hf10 := x.f_
    refine G_iload dX12_spent_85 rfl ?_
    refine G_aload_n (i := 0) dX12_spent_87 rfl rfl ?_
    refine G_getR fX12_96 rfl dX12_spent_88 (o81 hT) (r81_28 hT) ?_
    refine G_iload_n (i := 2) dX12_spent_91 rfl rfl ?_
    refine G_iald (v := h 102 F) dX12_spent_92 (o102 hT) (by omega) (fr 102 F (by decide) (by omega)) ?_
    refine G_icmp_ge (tgt := 210) dX12_spent_93 (by decide) (by omega) (by omega) (fun c_1 => ?_) (fun c_1 => ?_)
    · refine G_iload dX12_spent_210 rfl ?_
      refine G_iretZ rfl dX12_spent_212 ?_
      obtain rfl : k = (h 102 F).toNat := by omega
      refine ⟨?_, fr⟩
      rw [hX]; rfl
    · refine G_aload_n (i := 0) dX12_spent_96 rfl rfl ?_
      refine G_getR fX12_99 rfl dX12_spent_97 (o81 hT) (r81_29 hT) ?_
      refine G_sipush dX12_spent_100 (by decide) ?_
      refine G_iload_n (i := 2) dX12_spent_103 rfl rfl ?_
      refine G_imul dX12_spent_104 ?_
      refine G_iload dX12_spent_105 rfl ?_
      refine G_iadd dX12_spent_107 ?_
      refine G_iald (v := h 103 (300 * F + k)) dX12_spent_108 (o103 hT) (by omega) (fr 103 (300 * F + k) (by decide) (by omega)) ?_
      have hok := x.to_ F k hf2 (by omega)
      have hokr := f_okc_r hok
      refine G_istore (ls' := [some (.inr (some 81)), some (.inl s), some (.inl (F : Int)), none, some (.inl X.1), some (.inl mo), some (.inl (k : Int)), some (.inl (h 103 (300 * F + k))), none]) dX12_spent_109 (by decide) rfl ?_
      refine G_iload dX12_spent_111 rfl ?_
      refine G_bipush dX12_spent_113 (by decide) ?_
      refine G_icmp_lt (tgt := 141) dX12_spent_115 (by decide) (by omega) (by decide) (fun c_2 => ?_) (fun c_2 => ?_)
      · refine G_iload dX12_spent_141 rfl ?_
        refine G_bipush dX12_spent_143 (by decide) ?_
        refine G_idiv dX12_spent_145 (by omega) (by decide) ?_
        refine G_istore (ls' := [some (.inr (some 81)), some (.inl s), some (.inl (F : Int)), none, some (.inl X.1), some (.inl mo), some (.inl (k : Int)), some (.inl (h 103 (300 * F + k))), some (.inl ((h 103 (300 * F + k)).tdiv 10))]) dX12_spent_146 (by decide) rfl ?_
        have dd := f_okc_d hok (by omega)
        obtain ⟨P, hP⟩ : ∃ P : Nat, (h 103 (300 * F + k)).tdiv 10 = (P : Int) := ⟨((h 103 (300 * F + k)).tdiv 10).toNat, by omega⟩
        rw [hP]
        refine G_iload dX12_spent_148 rfl ?_
        refine G_aload_n (i := 0) dX12_spent_150 rfl rfl ?_
        refine G_getI (v := (n : Int)) fX12_13 rfl dX12_spent_151 (o81 hT) (X1) ?_
        refine G_icmp_lt (tgt := 160) dX12_spent_154 (by decide) (by omega) (by omega) (fun c_3 => ?_) (fun c_3 => ?_)
        · refine G_iload dX12_spent_160 rfl ?_
          refine G_aload_n (i := 0) dX12_spent_162 rfl rfl ?_
          refine G_getR fX12_23 rfl dX12_spent_163 (o81 hT) (r81_4 hT) ?_
          refine G_aload_n (i := 0) dX12_spent_166 rfl rfl ?_
          refine G_getR fX12_171 rfl dX12_spent_167 (o81 hT) (r81_53 hT) ?_
          refine G_iload dX12_spent_170 rfl ?_
          refine G_iald (v := g 120 P) dX12_spent_172 (o120 hT) (by omega) rfl ?_
          have o172 := rw_ P (by omega)
          refine G_iald (v := X.2 P) dX12_spent_173 (o84 hT) (by omega) (((fr 84 _ (by decide) (by omega)).trans (rw_ P (by omega)).2)) ?_
          refine G_aload_n (i := 0) dX12_spent_174 rfl rfl ?_
          refine G_getR fX12_23 rfl dX12_spent_175 (o81 hT) (r81_4 hT) ?_
          refine G_aload_n (i := 0) dX12_spent_178 rfl rfl ?_
          refine G_getR fX12_171 rfl dX12_spent_179 (o81 hT) (r81_53 hT) ?_
          refine G_aload_n (i := 0) dX12_spent_182 rfl rfl ?_
          refine G_iload dX12_spent_183 rfl ?_
          refine G_cVq (as := [.inl (P : Int)]) qX12_207 (m_after (d + 1) τ g hT (P : Int) (by omega) (by rw [X1]; omega)) rfl rfl (Nat.le_of_ble_eq_true rfl) (o81 hT) dX12_spent_185 ?_
          have hq : f_ny n P < n := by unfold f_ny; split <;> omega
          have ea : f_aft (g 81 1) (P : Int) = ((f_ny n P : Nat) : Int) := by rw [X1]; exact f_aft_n (by omega)
          rw [show (if (P : Int) + 1 = g 81 1 then 0 else (P : Int) + 1) = ((f_ny n P : Nat) : Int) from ea]
          refine G_iald (v := g 120 (f_ny n P)) dX12_spent_188 (o120 hT) (by omega) rfl ?_
          have o188 := rw_ (f_ny n P) (by omega)
          refine G_iald (v := X.2 (f_ny n P)) dX12_spent_189 (o84 hT) (by omega) (((fr 84 _ (by decide) (by omega)).trans (rw_ (f_ny n P) (by omega)).2)) ?_
          refine G_iadd dX12_spent_190 ?_
          refine G_iadd dX12_spent_191 ?_
          refine G_istore (ls' := [some (.inr (some 81)), some (.inl s), some (.inl (F : Int)), none, some (.inl (X.1 + ((X.2 P) + (X.2 (f_ny n P))))), some (.inl mo), some (.inl (k : Int)), some (.inl (h 103 (300 * F + k))), some (.inl (P : Int))]) dX12_spent_192 (by decide) rfl ?_
          refine G_aload_n (i := 0) dX12_spent_194 rfl rfl ?_
          refine G_aload_n (i := 0) dX12_spent_195 rfl rfl ?_
          refine G_getR fX12_171 rfl dX12_spent_196 (o81 hT) (r81_53 hT) ?_
          refine G_iload dX12_spent_199 rfl ?_
          refine G_cVv (as := [.inr (some 120), .inl (P : Int)]) qX12_307 (m_swap d τ g hT n ⟨X1, hn.2⟩ 120 (o120 hT) P (by omega) (by decide)) rfl rfl (Nat.le_of_ble_eq_true rfl) (o81 hT) dX12_spent_201 (fun h' e' => ?_)
          subst e'
          refine G_iinc (ls' := [some (.inr (some 81)), some (.inl s), some (.inl (F : Int)), none, some (.inl (X.1 + ((X.2 P) + (X.2 (f_ny n P))))), some (.inl mo), some (.inl ((k : Int) + 1)), some (.inl (h 103 (300 * F + k))), some (.inl (P : Int))]) dX12_spent_204 (by decide) rfl rfl ?_
          refine G_goto (tgt := 85) dX12_spent_207 (by decide) ?_
          refine G_lsub (ls' := [some (.inr (some 81)), some (.inl s), some (.inl (F : Int)), none, some (.inl (X.1 + ((X.2 P) + (X.2 (f_ny n P))))), some (.inl mo), some (.inl ((k : Int) + 1)), none, none]) (LS_same (LS_same (LS_same (LS_none (LS_same (LS_same (LS_same (LS_none (LS_none LS_nil))))))))) ?_
          have es := sp_s (S := (fun k => h 103 (300 * F + k))) hX
          have es2 : sp_st n mo X (h 103 (300 * F + k)) = some (X.1 + (X.2 P + X.2 (f_ny n P)), f_sw n X.2 P) := by unfold sp_st; rw [if_neg (by omega), hP, if_neg (by omega)]; rfl
          rw [es2] at es
          refine ih _ (k + 1) _ (by omega) es (fun q hq => ?_) (fr.tr (fun b j b1 b2 => hf_na (by omega))) (by omega)
          have hqn : f_ny n P < n := by unfold f_ny; split <;> omega
          rw [hf_in ⟨Nat.zero_le _, hq⟩]
          have y1 := rw_ q hq
          have y2 := rw_ P (by omega)
          have y3 := rw_ _ hqn
          show (0 ≤ f_sw n (g 120) P q ∧ f_sw n (g 120) P q < 15) ∧ h 84 (f_sw n (g 120) P q).toNat = f_sw n X.2 P q
          unfold f_sw
          by_cases z1 : q = P
          · simp only [if_pos z1]; exact y3
          simp only [if_neg z1]
          by_cases z2 : q = (if P + 1 = n then 0 else P + 1)
          · simp only [if_pos z2]; exact y2
          · simp only [if_neg z2]; exact y1
        · refine G_bipush dX12_spent_157 (by decide) ?_
          refine G_iretZ rfl dX12_spent_159 ?_
          refine ⟨?_, fr⟩
          have es := sp_s (S := (fun k => h 103 (300 * F + k))) hX
          have es2 : sp_st n mo X (h 103 (300 * F + k)) = none := by unfold sp_st; rw [if_neg (by omega), hP, if_pos (by omega)]
          rw [es2] at es
          rw [sp_none es (by omega)]; rfl
      · refine G_iload dX12_spent_118 rfl ?_
        refine G_iload dX12_spent_120 rfl ?_
        refine G_iadd dX12_spent_122 ?_
        refine G_istore (ls' := [some (.inr (some 81)), some (.inl s), some (.inl (F : Int)), none, some (.inl (X.1 + mo)), some (.inl mo), some (.inl (k : Int)), some (.inl (h 103 (300 * F + k))), none]) dX12_spent_123 (by decide) rfl ?_
        refine G_aload_n (i := 0) dX12_spent_125 rfl rfl ?_
        refine G_aload_n (i := 0) dX12_spent_126 rfl rfl ?_
        refine G_getR fX12_171 rfl dX12_spent_127 (o81 hT) (r81_53 hT) ?_
        refine G_iload dX12_spent_130 rfl ?_
        refine G_bipush dX12_spent_132 (by decide) ?_
        refine G_isub dX12_spent_134 ?_
        refine G_cVv (as := [.inr (some 120), .inl ((h 103 (300 * F + k)) - 100)]) qX12_215 (m_turn (d + 1) τ g hT 120 7 (o120 hT) ((h 103 (300 * F + k)) - 100) (by omega) (by decide) (by omega) (by decide)) rfl rfl (Nat.le_of_ble_eq_true rfl) (o81 hT) dX12_spent_135 (fun h' e' => ?_)
        subst e'
        refine G_goto (tgt := 204) dX12_spent_138 (by decide) ?_
        refine G_iinc (ls' := [some (.inr (some 81)), some (.inl s), some (.inl (F : Int)), none, some (.inl (X.1 + mo)), some (.inl mo), some (.inl ((k : Int) + 1)), some (.inl (h 103 (300 * F + k))), none]) dX12_spent_204 (by decide) rfl rfl ?_
        refine G_goto (tgt := 85) dX12_spent_207 (by decide) ?_
        refine G_lsub (ls' := [some (.inr (some 81)), some (.inl s), some (.inl (F : Int)), none, some (.inl (X.1 + mo)), some (.inl mo), some (.inl ((k : Int) + 1)), none, none]) (LS_same (LS_same (LS_same (LS_none (LS_same (LS_same (LS_same (LS_none (LS_none LS_nil))))))))) ?_
        have es := sp_s (S := (fun k => h 103 (300 * F + k))) hX
        have es2 : sp_st n mo X (h 103 (300 * F + k)) = some (X.1 + mo, fun j => X.2 (f_rot n ((h 103 (300 * F + k)) - 100) j)) := by unfold sp_st; rw [if_pos (by omega)]
        rw [es2] at es
        refine ih _ (k + 1) _ (by omega) es (fun q hq => ?_) (fr.tr (fun b j b1 b2 => f_turn_o (by omega))) (by omega)
        have hrq := f_rot_r (w := (h 103 (300 * F + k)) - 100) (j := q) (show 0 < n by omega) hq
        rw [X1, show ((n : Int)).toNat = n from rfl, f_turn_at, if_pos hq]
        exact rw_ _ hrq

abbrev f_spC (h : HT) (s : Int) (pp : Nat) (o : Nat → Int) (p : Nat) : Int := h 84 (f_mb (f_B s) pp (o p).toNat).toNat
theorem m_spent (d : Nat) (τ : TT) (h : HT) (hT : TK τ) (s f : Int) (r_s : -2147483648 ≤ s ∧ s ≤ 2147483647) (r_f : -2147483648 ≤ f ∧ f ≤ 2147483647) (x : MI h) (n pp : Nat) (hn : h 81 1 = n) (hpp : h 81 0 = pp) : S_ mX12_spent (d + 2) 0 0 [.inr (some 81), .inl s, .inl f] τ h (Zi τ fun v' h' => (¬ (0 ≤ f ∧ f ≤ h 81 26 - 1) → v' = -1) ∧ ((0 ≤ f ∧ f ≤ h 81 26 - 1) → ((h 81 1 = 0 ∨ 7 < h 81 1) → v' = -3) ∧ (¬ (h 81 1 = 0 ∨ 7 < h 81 1) → (¬ f_sok h n pp s → v' = -2) ∧ (f_sok h n pp s → ∃ o : Nat → Int, MINP n (f_SS h n pp s) (f_P n n) o ∧ v' = f_spv (sp_run n (f_mx (f_spC h s pp o) n) (f_spC h s pp o) (fun k => h 103 (300 * f.toNat + k)) (h 102 f.toNat).toNat)))) ∧ FRs h h') := by
  have hn9 := x.n_
  have hp15 := x.p_
  have hf10 := x.f_
  refine S_go (k := 6) (ls := [some (.inr (some 81)), some (.inl s), some (.inl f), none, none, none, none, none, none]) (by decide) rfl (Nat.le_of_ble_eq_true rfl) rfl ?_
  refine G_aload_n (i := 0) dX12_spent_0 rfl rfl ?_
  refine G_iload_n (i := 2) dX12_spent_1 rfl rfl ?_
  refine G_cVq (as := [.inl f]) qX12_244 (m_isFigure d τ h hT f (by omega) x.f_) rfl rfl (Nat.le_of_ble_eq_true rfl) (o81 hT) dX12_spent_2 ?_
  refine G_ifb_ne (tgt := 10) dX12_spent_5 (by decide) (fun c_1 => ?_) (fun c_1 => ?_)
  · refine G_aload_n (i := 0) dX12_spent_10 rfl rfl ?_
    refine G_iload_n (i := 1) dX12_spent_11 rfl rfl ?_
    refine G_cVi (as := [.inl s]) qX12_317 (m_findSet d τ h hT s r_s x n pp hn hpp) rfl rfl (Nat.le_of_ble_eq_true rfl) (o81 hT) dX12_spent_12 (fun v1 g e1 => ?_)
    obtain ⟨n1, n2, fr⟩ := e1
    have hv : v1 = -3 ∨ v1 = -2 ∨ v1 = 0 := by by_cases z : h 81 1 = 0 ∨ 7 < h 81 1; exact Or.inl (n1 z); (by_cases y : f_sok h n pp s; exact Or.inr (Or.inr ((n2 z).2 y).1); exact Or.inr (Or.inl ((n2 z).1 y)))
    have X1 : g 81 1 = n := by rw [fr 81 1 (by decide) (by decide)]; exact hn
    refine G_istore_n (i := 3) (ls' := [some (.inr (some 81)), some (.inl s), some (.inl f), some (.inl v1), none, none, none, none, none]) dX12_spent_15 rfl (by decide) rfl ?_
    refine G_iload_n (i := 3) dX12_spent_16 rfl rfl ?_
    refine G_if_eq (tgt := 22) dX12_spent_17 (by decide) (by omega) (fun c_2 => ?_) (fun c_2 => ?_)
    · refine G_iconst dX12_spent_22 ?_
      refine G_istore (ls' := [some (.inr (some 81)), some (.inl s), some (.inl f), some (.inl v1), some (.inl 0), none, none, none, none]) dX12_spent_23 (by decide) rfl ?_
      refine G_iconst dX12_spent_25 ?_
      refine G_istore (ls' := [some (.inr (some 81)), some (.inl s), some (.inl f), some (.inl v1), some (.inl 0), some (.inl 0), none, none, none]) dX12_spent_26 (by decide) rfl ?_
      refine G_iconst dX12_spent_28 ?_
      refine G_istore (ls' := [some (.inr (some 81)), some (.inl s), some (.inl f), some (.inl v1), some (.inl 0), some (.inl 0), some (.inl 0), none, none]) dX12_spent_29 (by decide) rfl ?_
      refine G_lsub (ls' := [some (.inr (some 81)), some (.inl s), some (.inl f), none, some (.inl 0), some (.inl 0), some (.inl 0), none, none]) (LS_same (LS_same (LS_same (LS_none (LS_same (LS_same (LS_same (LS_none (LS_none LS_nil))))))))) ?_
      obtain ⟨F, rfl⟩ : ∃ F : Nat, f = (F : Int) := ⟨f.toNat, by omega⟩
      have nz : ¬ (h 81 1 = 0 ∨ 7 < h 81 1) := fun z => absurd (n1 z) (by omega)
      have nk : f_sok h n pp s := Classical.byContradiction fun y => absurd ((n2 nz).1 y) (by omega)
      obtain ⟨_, o, m1, m2, m3⟩ := (n2 nz).2 nk
      have hcn := nk.2.2.2
      have hMB : ∀ q : Nat, q < n → 0 ≤ f_mb (f_B s) pp (o q).toNat ∧ f_mb (f_B s) pp (o q).toNat < 15 := fun q hq => by have a1 := m1.1.1 q hq; have := f_mb_r (B := f_B s) pp (o q).toNat (by omega); omega
      have hB : ∀ q : Nat, q < n → 0 ≤ g 120 q ∧ g 120 q < 15 := fun q hq => by rw [m3 q hq]; exact hMB q hq
      have hC : ∀ q : Nat, q < n → h 84 (g 120 q).toNat = f_spC h s pp o q := fun q hq => by rw [m3 q hq]
      have hCr : ∀ q : Nat, q < n → 0 ≤ f_spC h s pp o q ∧ f_spC h s pp o q ≤ 9 := fun q hq => x.pa_ _ (by have := hMB q hq; omega)
      have h3 : h 81 1 = n ∧ 3 ≤ n ∧ n ≤ 7 := by omega
      refine G_mono ?_ (m_spent_M d τ hT h (Zi τ fun v h' => v = f_spv (sp_run n (f_mx (f_spC h s pp o) n) (f_spC h s pp o) (fun k => h 103 (300 * F + k)) (h 102 F).toNat) ∧ FRs h h') g n F s h3 X1 (fun j => fr 84 j (by decide) (by omega)) hB (f_spC h s pp o) hC hCr ?_ _ 0 (Nat.lt_succ_self _) (Nat.zero_le _))
      · rintro r τ' h' ⟨q1, v, q2, q3, q4⟩
        exact ⟨q1, v, q2, fun z => absurd z (by omega), fun _ => ⟨fun z => absurd z nz, fun _ => ⟨fun y => absurd nk y, fun _ => ⟨o, m1, q3⟩⟩⟩, q4⟩
      · refine G_iconst dX12_spent_82 ?_
        refine G_istore (ls' := [some (.inr (some 81)), some (.inl s), some (.inl (F : Int)), none, some (.inl 0), some (.inl (f_mx (f_spC h s pp o) n)), some (.inl 0), none, none]) dX12_spent_83 (by decide) rfl ?_
        exact m_spent_L d τ h hT n F s h3 x (by omega) (f_mx (f_spC h s pp o) n) (f_spC h s pp o) _ g 0 (0, f_spC h s pp o) (Nat.lt_succ_self _) rfl (fun q hq => ⟨hB q hq, hC q hq⟩) fr (by have := x.ma_ F (by omega); omega)
    · refine G_iload_n (i := 3) dX12_spent_20 rfl rfl ?_
      refine G_iretZ rfl dX12_spent_21 ?_
      exact ⟨fun z => absurd (by assumption) z, fun _ => ⟨n1, fun z => ⟨(n2 z).1, fun y => absurd ((n2 z).2 y).1 (by omega)⟩⟩, fr⟩
  · refine G_iconst dX12_spent_8 ?_
    refine G_iretZ rfl dX12_spent_9 ?_
    exact ⟨fun _ => rfl, fun z => absurd z (by assumption), FRs.rf⟩

