/-! operations: slips, the search -/
def FRe (h g : HT) : Prop := ∀ c j : Nat, ¬ (29 ≤ c ∧ c ≤ 38) → g c j = h c j
theorem FRe.rf {h : HT} : FRe h h := fun _ _ _ => rfl
theorem FRe.tr {h g k : HT} (x : FRe h g) (y : FRe g k) : FRe h k := fun a i q => (y a i q).trans (x a i q)
theorem FRl.e29 {h g : HT} (x : FRl 29 h g) : FRe h g := fun a i q => x a i (by omega)
theorem FRl.e34 {h g : HT} (x : FRl 34 h g) : FRe h g := fun a i q => x a i (by omega)
def okq (n R : Int) (cr cm : Nat → Int) (T0 : TR) (l : List Int) (q : Nat) : Int := t_res (t_run n R cr cm T0 (sl_l ((q / 3 : Nat) : Int) ((q % 3 : Nat) : Int) 0 l)) R
theorem so_ok {j : Nat} {s : Int} (hs : f_okc s) : ∀ u ∈ so_ j s, f_okc u := by
  unfold so_
  intro u hu
  split at hu
  · cases hu
  · split at hu
    · rw [List.mem_singleton.mp hu]; exact o_un_ok hs
    · rcases List.mem_cons.mp hu with z | z
      · rw [z]; exact hs
      · rw [List.mem_singleton.mp z]; exact hs
theorem x_explained_J (d : Nat) (τ : TT) (h : HT) (hT : TK τ) (n R : Int) (cr cm : Nat → Int) (hn : 3 ≤ n ∧ n ≤ 9) (cl : CLH h n R cr cm) (T0 : TR) (b L : Nat) (hS : ST τ b L) (hb : 126 ≤ b) (hL : L ≤ 300) (l : List Int) (hl : h b 1 = l.length ∧ l.length ≤ L) (hc : ∀ k : Nat, k < l.length → l[k]? = some (h (b + 1) k)) (okl : ∀ s ∈ l, f_okc s) (i : Int) (hi : -1 ≤ i ∧ i ≤ 2147483647) (k : Nat) (hk : k < l.length) (T : TR) (ok : t_ok n T) (htk : t_run n R cr cm T0 (l.take k) = some T) (hok : f_okc (h (b + 1) k)) (K : ∀ (g : HT) (c : Nat), FRe h g → FT n g 29 T → c ≤ 3 * k + 3 → sc (okq n R cr cm T0 l) i (3 * l.length) 0 0 = sc (okq n R cr cm T0 l) i (3 * (l.length - (k + 1))) (3 * (k + 1)) (c : Int) → G_ mX11_explained (d + 5) 0 0 149 [some (.inr (some 0)), some (.inr (some b)), some (.inl i), some (.inl (wkL (l.drop (k + 1)))), some (.inl (c : Int)), some (.inl (k : Int)), some (.inl (h (b + 1) k)), none] [] τ g (Zi τ fun v h' => v = sc (okq n R cr cm T0 l) i (3 * l.length) 0 0 ∧ FRe h h')) : ∀ (n_ : Nat) (g : HT) (j : Nat) (c : Nat), 3 - j < n_ → FRe h g → FT n g 29 T → j ≤ 3 → c ≤ 3 * k + j → sc (okq n R cr cm T0 l) i (3 * l.length) 0 0 = sc (okq n R cr cm T0 l) i (3 * (l.length - k) - j) (3 * k + j) (c : Int) → G_ mX11_explained (d + 5) 0 0 58 [some (.inr (some 0)), some (.inr (some b)), some (.inl i), some (.inl (wkL (l.drop (k + 1)))), some (.inl (c : Int)), some (.inl (k : Int)), some (.inl (h (b + 1) k)), some (.inl (j : Int))] [] τ g (Zi τ fun v h' => v = sc (okq n R cr cm T0 l) i (3 * l.length) 0 0 ∧ FRe h h') := by
  intro n_
  induction n_ with
  | zero => intro g j c hm_; exact absurd hm_ (Nat.not_lt_zero _)
  | succ n_ ih =>
    intro g j c hm_ fr ft hj hcc hsc
    have wr := wkL_r (l.drop (k + 1))
    rw [List.length_drop] at wr
    have cl3 := cl.2.2.1
    refine G_iload dX11_explained_58 rfl ?_
    refine G_iconst dX11_explained_60 ?_
    refine G_icmp_ge (tgt := 149) dX11_explained_61 (by decide) (by omega) (by decide) (fun c_1 => ?_) (fun c_1 => ?_)
    · refine G_lsub (ls' := [some (.inr (some 0)), some (.inr (some b)), some (.inl i), some (.inl (wkL (l.drop (k + 1)))), some (.inl (c : Int)), some (.inl (k : Int)), some (.inl (h (b + 1) k)), none]) (LS_same (LS_same (LS_same (LS_same (LS_same (LS_same (LS_same (LS_none LS_nil)))))))) ?_
      obtain rfl : j = 3 := by omega
      exact K g c fr ft (by omega) (by rw [hsc, show 3 * (l.length - k) - 3 = 3 * (l.length - (k + 1)) by omega, show 3 * k + 3 = 3 * (k + 1) by omega])
    · refine G_aload_n (i := 0) dX11_explained_64 rfl rfl ?_
      refine G_getR fX11_73 rfl dX11_explained_65 (o0 hT) (r0_12 hT) ?_
      refine G_aload_n (i := 0) dX11_explained_68 rfl rfl ?_
      refine G_getR fX11_70 rfl dX11_explained_69 (o0 hT) (r0_11 hT) ?_
      refine G_cVv (as := [.inr (some 29)]) qX11_163 (x_copyF (d + 3) τ g 34 (fl34 hT) 29 (fl29 hT) (by decide)) rfl rfl (Nat.le_of_ble_eq_true rfl) (o34 hT) dX11_explained_72 (fun h' e' => ?_)
      subst e'
      have ftc := FT_cpy (a := 34) (b := 29) (by omega) (by decide) ft
      have clg : CLH g n R cr cm := cl.fr (fun b j b1 b2 => fr b j (by omega))
      refine G_aload_n (i := 0) dX11_explained_75 rfl rfl ?_
      refine G_aload_n (i := 0) dX11_explained_76 rfl rfl ?_
      refine G_getR fX11_73 rfl dX11_explained_77 (o0 hT) (r0_12 hT) ?_
      refine G_iload dX11_explained_80 rfl ?_
      refine G_iload dX11_explained_82 rfl ?_
      refine G_cVi (as := [.inr (some 34), .inl (h (b + 1) k), .inl (j : Int)]) qX11_368 (x_weavesSlipped d τ (x_cpy g 34 29) hT 34 (fl34 hT) (by decide) n R cr cm hn (clg.fr (fun b j b1 b2 => x_cpy_fr b j (by omega))) T ftc ok (h (b + 1) k) hok j (by omega)) rfl rfl (Nat.le_of_ble_eq_true rfl) (o0 hT) dX11_explained_84 (fun v1 g1 e1 => ?_)
      obtain ⟨w0, w1, fr1⟩ := e1
      have hv1 : v1 = 0 ∨ v1 = 1 := by cases hq : t_run n R cr cm T (so_ j (h (b + 1) k)) with | none => exact Or.inl (w0 hq) | some T2 => exact Or.inr (w1 T2 hq).1
      have fg1 : FRe h g1 := fr.tr ((x_cpy_fr (a := 34)).tr fr1).e34
      have ft29 : FT n g1 29 T := ft.fr (fun c j c1 c2 => ((x_cpy_fr (a := 34)).tr fr1) c j (by omega))
      refine G_if_eq (tgt := 143) dX11_explained_87 (by decide) (by omega) (fun c_2 => ?_) (fun c_2 => ?_)
      · refine G_iinc (ls' := [some (.inr (some 0)), some (.inr (some b)), some (.inl i), some (.inl (wkL (l.drop (k + 1)))), some (.inl (c : Int)), some (.inl (k : Int)), some (.inl (h (b + 1) k)), some (.inl ((j : Int) + 1))]) dX11_explained_143 (by decide) rfl rfl ?_
        refine G_goto (tgt := 58) dX11_explained_146 (by decide) ?_
        have oe := okq_e (n := n) (R := R) (cr := cr) (cm := cm) (j := j) (by omega) (hc k hk) htk
        have hq : t_run n R cr cm T (so_ j (h (b + 1) k)) = none := by cases hq : t_run n R cr cm T (so_ j (h (b + 1) k)) with | none => rfl | some T2 => (have := (w1 T2 hq).1; omega)
        have okv : ¬ okq n R cr cm T0 l (3 * k + j) = 1 := by unfold okq; rw [oe, t_run_app, hq]; exact (show ¬ (0 : Int) = 1 by decide)
        refine ih g1 (j + 1) c (by omega) fg1 ft29 (by omega) (by omega) ?_
        rw [hsc, show 3 * (l.length - k) - j = (3 * (l.length - k) - (j + 1)) + 1 by omega]
        show (if okq n R cr cm T0 l (3 * k + j) = 1 then (if (c : Int) = i then _ else sc (okq n R cr cm T0 l) i _ (3 * k + j + 1) ((c : Int) + 1)) else sc (okq n R cr cm T0 l) i _ (3 * k + j + 1) (c : Int)) = _
        rw [if_neg okv]
        rfl
      · obtain ⟨T1, hq⟩ : ∃ T1, t_run n R cr cm T (so_ j (h (b + 1) k)) = some T1 := by cases hq : t_run n R cr cm T (so_ j (h (b + 1) k)) with | none => (have := w0 hq; omega) | some T1 => exact ⟨T1, rfl⟩
        have ft1 := (w1 T1 hq).2
        have ok1 := t_run_ok hn.1 cl.2.2.1.2 (so_ j (h (b + 1) k)) ok (so_ok hok) hq
        have g342 := ft1.2.2.1
        have ok121 := ok1.2.1
        refine G_aload_n (i := 0) dX11_explained_90 rfl rfl ?_
        refine G_getR fX11_73 rfl dX11_explained_91 (o0 hT) (r0_12 hT) ?_
        refine G_getI (v := T1.2.1) fX11_364 rfl dX11_explained_94 (o34 hT) (g342) ?_
        refine G_iload_n (i := 3) dX11_explained_97 rfl rfl ?_
        refine G_iadd dX11_explained_98 ?_
        refine G_aload_n (i := 0) dX11_explained_99 rfl rfl ?_
        refine G_getR fX11_56 rfl dX11_explained_100 (o0 hT) (r0_8 hT) ?_
        refine G_getI (v := R) fX11_188 rfl dX11_explained_103 (o13 hT) (((fg1 13 1 (by omega)).trans cl.2.1)) ?_
        refine G_icmp_ne (tgt := 143) dX11_explained_106 (by decide) (by omega) (by omega) (fun c_3 => ?_) (fun c_3 => ?_)
        · refine G_iinc (ls' := [some (.inr (some 0)), some (.inr (some b)), some (.inl i), some (.inl (wkL (l.drop (k + 1)))), some (.inl (c : Int)), some (.inl (k : Int)), some (.inl (h (b + 1) k)), some (.inl ((j : Int) + 1))]) dX11_explained_143 (by decide) rfl rfl ?_
          refine G_goto (tgt := 58) dX11_explained_146 (by decide) ?_
          have oe := okq_e (n := n) (R := R) (cr := cr) (cm := cm) (j := j) (by omega) (hc k hk) htk
          have okv : ¬ okq n R cr cm T0 l (3 * k + j) = 1 := by
            unfold okq; rw [oe, t_run_app, hq]; dsimp only
            cases hq2 : t_run n R cr cm T1 (l.drop (k + 1)) with
            | none => exact (show ¬ (0 : Int) = 1 by decide)
            | some T2 => (have := t_run_r _ hq2; show ¬ (if T2.2.1 = R then (1 : Int) else 0) = 1; rw [if_neg (by omega)]; decide)
          refine ih g1 (j + 1) c (by omega) fg1 ft29 (by omega) (by omega) ?_
          rw [hsc, show 3 * (l.length - k) - j = (3 * (l.length - k) - (j + 1)) + 1 by omega]
          show (if okq n R cr cm T0 l (3 * k + j) = 1 then (if (c : Int) = i then _ else sc (okq n R cr cm T0 l) i _ (3 * k + j + 1) ((c : Int) + 1)) else sc (okq n R cr cm T0 l) i _ (3 * k + j + 1) (c : Int)) = _
          rw [if_neg okv]
          rfl
        · refine G_aload_n (i := 0) dX11_explained_109 rfl rfl ?_
          refine G_aload_n (i := 0) dX11_explained_110 rfl rfl ?_
          refine G_getR fX11_73 rfl dX11_explained_111 (o0 hT) (r0_12 hT) ?_
          refine G_aload_n (i := 1) dX11_explained_114 rfl rfl ?_
          refine G_iload dX11_explained_115 rfl ?_
          refine G_iconst dX11_explained_117 ?_
          refine G_iadd dX11_explained_118 ?_
          refine G_cVi (as := [.inr (some 34), .inr (some b), .inl ((k : Int) + 1)]) qX11_270 (x_weavesOn d τ g1 hT 34 (fl34 hT) (by decide) n R cr cm hn (cl.fr (fun b j b1 b2 => fg1 b j (by omega))) T1 ft1 ok1 b L hS hb hL l ⟨(fg1 b 1 (by omega)).trans hl.1, hl.2⟩ (fun k hk => by rw [fg1 (b + 1) k (by omega)]; exact hc k hk) okl (k + 1) (by omega)) rfl rfl (Nat.le_of_ble_eq_true rfl) (o0 hT) dX11_explained_119 (fun v3 g3 e3 => ?_)
          obtain ⟨e3, fr3⟩ := e3
          have hv3 := t_res_r (t_run n R cr cm T1 (l.drop (k + 1))) R
          rw [← e3] at hv3
          have fg3 : FRe h g3 := fg1.tr fr3.e34
          have ft293 : FT n g3 29 T := ft29.fr (fun c j c1 c2 => fr3 c j (by omega))
          refine G_if_eq (tgt := 143) dX11_explained_122 (by decide) (by omega) (fun c_4 => ?_) (fun c_4 => ?_)
          · refine G_iinc (ls' := [some (.inr (some 0)), some (.inr (some b)), some (.inl i), some (.inl (wkL (l.drop (k + 1)))), some (.inl (c : Int)), some (.inl (k : Int)), some (.inl (h (b + 1) k)), some (.inl ((j : Int) + 1))]) dX11_explained_143 (by decide) rfl rfl ?_
            refine G_goto (tgt := 58) dX11_explained_146 (by decide) ?_
            have oe := okq_e (n := n) (R := R) (cr := cr) (cm := cm) (j := j) (by omega) (hc k hk) htk
            have okv : ¬ okq n R cr cm T0 l (3 * k + j) = 1 := by unfold okq; rw [oe, t_run_app, hq]; dsimp only; rw [← e3]; omega
            refine ih g3 (j + 1) c (by omega) fg3 ft293 (by omega) (by omega) ?_
            rw [hsc, show 3 * (l.length - k) - j = (3 * (l.length - k) - (j + 1)) + 1 by omega]
            show (if okq n R cr cm T0 l (3 * k + j) = 1 then (if (c : Int) = i then _ else sc (okq n R cr cm T0 l) i _ (3 * k + j + 1) ((c : Int) + 1)) else sc (okq n R cr cm T0 l) i _ (3 * k + j + 1) (c : Int)) = _
            rw [if_neg okv]
            rfl
          · refine G_iload dX11_explained_125 rfl ?_
            refine G_iload_n (i := 2) dX11_explained_127 rfl rfl ?_
            refine G_icmp_ne (tgt := 140) dX11_explained_128 (by decide) (by omega) (by omega) (fun c_5 => ?_) (fun c_5 => ?_)
            · refine G_iinc (ls' := [some (.inr (some 0)), some (.inr (some b)), some (.inl i), some (.inl (wkL (l.drop (k + 1)))), some (.inl ((c : Int) + 1)), some (.inl (k : Int)), some (.inl (h (b + 1) k)), some (.inl (j : Int))]) dX11_explained_140 (by decide) rfl rfl ?_
              refine G_iinc (ls' := [some (.inr (some 0)), some (.inr (some b)), some (.inl i), some (.inl (wkL (l.drop (k + 1)))), some (.inl ((c : Int) + 1)), some (.inl (k : Int)), some (.inl (h (b + 1) k)), some (.inl ((j : Int) + 1))]) dX11_explained_143 (by decide) rfl rfl ?_
              refine G_goto (tgt := 58) dX11_explained_146 (by decide) ?_
              have oe := okq_e (n := n) (R := R) (cr := cr) (cm := cm) (j := j) (by omega) (hc k hk) htk
              have okv : okq n R cr cm T0 l (3 * k + j) = 1 := by unfold okq; rw [oe, t_run_app, hq]; dsimp only; rw [← e3]; omega
              refine ih g3 (j + 1) (c + 1) (by omega) fg3 ft293 (by omega) (by omega) ?_
              rw [hsc, show 3 * (l.length - k) - j = (3 * (l.length - k) - (j + 1)) + 1 by omega]
              show (if okq n R cr cm T0 l (3 * k + j) = 1 then (if (c : Int) = i then _ else sc (okq n R cr cm T0 l) i _ (3 * k + j + 1) ((c : Int) + 1)) else sc (okq n R cr cm T0 l) i _ (3 * k + j + 1) (c : Int)) = _
              rw [if_pos okv, if_neg (by assumption)]
              rfl
            · refine G_bipush dX11_explained_131 (by decide) ?_
              refine G_iload dX11_explained_133 rfl ?_
              refine G_imul dX11_explained_135 ?_
              refine G_iload dX11_explained_136 rfl ?_
              refine G_iadd dX11_explained_138 ?_
              refine G_iretZ rfl dX11_explained_139 ?_
              have oe := okq_e (n := n) (R := R) (cr := cr) (cm := cm) (j := j) (by omega) (hc k hk) htk
              have okv : okq n R cr cm T0 l (3 * k + j) = 1 := by unfold okq; rw [oe, t_run_app, hq]; dsimp only; rw [← e3]; omega
              refine ⟨?_, fg3⟩
              rw [hsc, show 3 * (l.length - k) - j = (3 * (l.length - k) - (j + 1)) + 1 by omega]
              show _ = (if okq n R cr cm T0 l (3 * k + j) = 1 then (if (c : Int) = i then 10 * (((3 * k + j) / 3 : Nat) : Int) + (((3 * k + j) % 3 : Nat) : Int) else _) else _)
              rw [if_pos okv, if_pos (by assumption), show (3 * k + j) / 3 = k by omega, show (3 * k + j) % 3 = j by omega]

theorem x_explained_L (d : Nat) (τ : TT) (h : HT) (hT : TK τ) (n R : Int) (cr cm : Nat → Int) (hn : 3 ≤ n ∧ n ≤ 9) (cl : CLH h n R cr cm) (T0 : TR) (b L : Nat) (hS : ST τ b L) (hb : 126 ≤ b) (hL : L ≤ 300) (l : List Int) (hl : h b 1 = l.length ∧ l.length ≤ L) (hc : ∀ k : Nat, k < l.length → l[k]? = some (h (b + 1) k)) (okl : ∀ s ∈ l, f_okc s) (i : Int) (hi : -1 ≤ i ∧ i ≤ 2147483647) : ∀ (n_ : Nat) (g : HT) (k : Nat) (T : TR) (c : Nat), l.length - k < n_ → FRe h g → FT n g 29 T → t_ok n T → t_run n R cr cm T0 (l.take k) = some T → k ≤ l.length → c ≤ 3 * k → sc (okq n R cr cm T0 l) i (3 * l.length) 0 0 = sc (okq n R cr cm T0 l) i (3 * (l.length - k)) (3 * k) (c : Int) → G_ mX11_explained (d + 5) 0 0 22 [some (.inr (some 0)), some (.inr (some b)), some (.inl i), some (.inl (wkL (l.drop k))), some (.inl (c : Int)), some (.inl (k : Int)), none, none] [] τ g (Zi τ fun v h' => v = sc (okq n R cr cm T0 l) i (3 * l.length) 0 0 ∧ FRe h h') := by
  intro n_
  induction n_ with
  | zero => intro g k T c hm_; exact absurd hm_ (Nat.not_lt_zero _)
  | succ n_ ih =>
    intro g k T c hm_ fr ft ok htk hk hcc hsc
    refine G_iload dX11_explained_22 rfl ?_
    refine G_aload_n (i := 1) dX11_explained_24 rfl rfl ?_
    refine G_getI (v := (l.length : Int)) fX11_174 rfl dX11_explained_25 hS.1 (((fr b 1 (by omega)).trans hl.1)) ?_
    refine G_icmp_ge (tgt := 171) dX11_explained_28 (by decide) (by omega) (by omega) (fun c_1 => ?_) (fun c_1 => ?_)
    · refine G_iload_n (i := 2) dX11_explained_171 rfl rfl ?_
      refine G_iconst dX11_explained_172 ?_
      refine G_icmp_ne (tgt := 181) dX11_explained_173 (by decide) (by omega) (by decide) (fun c_2 => ?_) (fun c_2 => ?_)
      · refine G_iconst dX11_explained_181 ?_
        refine G_iretZ rfl dX11_explained_182 ?_
        refine ⟨?_, fr⟩
        rw [hsc, show 3 * (l.length - k) = 0 by omega]
        show _ = (if i = -1 then (c : Int) else -1)
        first | rw [if_pos (by omega)] | rw [if_neg (by omega)]
      · refine G_iload dX11_explained_176 rfl ?_
        refine G_goto (tgt := 182) dX11_explained_178 (by decide) ?_
        refine G_iretZ rfl dX11_explained_182 ?_
        refine ⟨?_, fr⟩
        rw [hsc, show 3 * (l.length - k) = 0 by omega]
        show _ = (if i = -1 then (c : Int) else -1)
        first | rw [if_pos (by omega)] | rw [if_neg (by omega)]
    · refine G_aload_n (i := 1) dX11_explained_31 rfl rfl ?_
      refine G_getR fX11_267 rfl dX11_explained_32 hS.1 hS.2.2 ?_
      refine G_iload dX11_explained_35 rfl ?_
      refine G_iald (v := h (b + 1) k) dX11_explained_37 hS.2.1 (by omega) (fr (b + 1) k (by omega)) ?_
      have hok := okl _ (List.mem_of_getElem? (hc k (by omega)))
      have hokr := f_okc_r hok
      refine G_istore (ls' := [some (.inr (some 0)), some (.inr (some b)), some (.inl i), some (.inl (wkL (l.drop k))), some (.inl (c : Int)), some (.inl (k : Int)), some (.inl (h (b + 1) k)), none]) dX11_explained_38 (by decide) rfl ?_
      refine G_iload_n (i := 3) dX11_explained_40 rfl rfl ?_
      refine G_iload dX11_explained_41 rfl ?_
      refine G_bipush dX11_explained_43 (by decide) ?_
      refine G_icmp_lt (tgt := 52) dX11_explained_45 (by decide) (by omega) (by decide) (fun c_3 => ?_) (fun c_3 => ?_)
      · refine G_iconst dX11_explained_52 ?_
        refine G_isub dX11_explained_53 ?_
        refine G_istore_n (i := 3) (ls' := [some (.inr (some 0)), some (.inr (some b)), some (.inl i), some (.inl ((wkL (l.drop k)) - 0)), some (.inl (c : Int)), some (.inl (k : Int)), some (.inl (h (b + 1) k)), none]) dX11_explained_54 rfl (by decide) rfl ?_
        refine G_iconst dX11_explained_55 ?_
        refine G_istore (ls' := [some (.inr (some 0)), some (.inr (some b)), some (.inl i), some (.inl ((wkL (l.drop k)) - 0)), some (.inl (c : Int)), some (.inl (k : Int)), some (.inl (h (b + 1) k)), some (.inl 0)]) dX11_explained_56 (by decide) rfl ?_
        have ed := drop_s (hc k (by omega))
        rw [show (wkL (l.drop k)) - 0 = wkL (l.drop (k + 1)) from by rw [ed]; show ((if 100 ≤ (h (b + 1) k) then 1 else 0) + wkL (l.drop (k + 1))) - 0 = _; rw [if_neg (by omega)]; omega]
        refine x_explained_J d τ h hT n R cr cm hn cl T0 b L hS hb hL l hl hc okl i hi k (by omega) T ok htk hok (fun g1 c1 fg1 ft29 hc1 hsc1 => ?_) _ g 0 c (Nat.lt_succ_self _) fr ft (by omega) (by omega) (by rw [hsc]; rfl)
        refine G_aload_n (i := 0) dX11_explained_149 rfl rfl ?_
        refine G_aload_n (i := 0) dX11_explained_150 rfl rfl ?_
        refine G_getR fX11_70 rfl dX11_explained_151 (o0 hT) (r0_11 hT) ?_
        refine G_iload dX11_explained_154 rfl ?_
        refine G_cVi (as := [.inr (some 29), .inl (h (b + 1) k)]) qX11_360 (x_weaves (d + 1) τ g1 hT 29 (fl29 hT) (by decide) n R cr cm hn (cl.fr (fun b j b1 b2 => fg1 b j (by omega))) T ft29 ok (h (b + 1) k) hok) rfl rfl (Nat.le_of_ble_eq_true rfl) (o0 hT) dX11_explained_156 (fun v1 g2 e1 => ?_)
        obtain ⟨w0, w1, fr2⟩ := e1
        have hv1 : v1 = 0 ∨ v1 = 1 := by cases hq : t_step n R cr cm T (h (b + 1) k) with | none => exact Or.inl (w0 hq) | some T2 => exact Or.inr (w1 T2 hq).1
        have fg2 : FRe h g2 := fg1.tr fr2.e29
        have etk : l.take (k + 1) = l.take k ++ [(h (b + 1) k)] := by rw [List.take_succ, hc k (by omega)]; rfl
        refine G_if_ne (tgt := 165) dX11_explained_159 (by decide) (by omega) (fun c_4 => ?_) (fun c_4 => ?_)
        · refine G_iinc (ls' := [some (.inr (some 0)), some (.inr (some b)), some (.inl i), some (.inl (wkL (l.drop (k + 1)))), some (.inl (c1 : Int)), some (.inl ((k : Int) + 1)), some (.inl (h (b + 1) k)), none]) dX11_explained_165 (by decide) rfl rfl ?_
          refine G_goto (tgt := 22) dX11_explained_168 (by decide) ?_
          obtain ⟨T2, hq⟩ : ∃ T2, t_step n R cr cm T (h (b + 1) k) = some T2 := by cases hq : t_step n R cr cm T (h (b + 1) k) with | none => (have := w0 hq; omega) | some T2 => exact ⟨T2, rfl⟩
          refine G_lsub (ls' := [some (.inr (some 0)), some (.inr (some b)), some (.inl i), some (.inl (wkL (l.drop (k + 1)))), some (.inl (c1 : Int)), some (.inl ((k : Int) + 1)), none, none]) (LS_same (LS_same (LS_same (LS_same (LS_same (LS_same (LS_none (LS_none LS_nil)))))))) ?_
          exact ih g2 (k + 1) T2 c1 (by omega) fg2 (w1 T2 hq).2 (t_step_ok hn.1 cl.2.2.1.2 ok hok hq) (by rw [etk, t_run_app, htk]; exact (t_run_1 hq).trans rfl) (by omega) (by omega) hsc1
        · refine G_goto (tgt := 171) dX11_explained_162 (by decide) ?_
          refine G_iload_n (i := 2) dX11_explained_171 rfl rfl ?_
          refine G_iconst dX11_explained_172 ?_
          refine G_icmp_ne (tgt := 181) dX11_explained_173 (by decide) (by omega) (by decide) (fun c_5 => ?_) (fun c_5 => ?_)
          · refine G_iconst dX11_explained_181 ?_
            refine G_iretZ rfl dX11_explained_182 ?_
            have hq : t_step n R cr cm T (h (b + 1) k) = none := by cases hq : t_step n R cr cm T (h (b + 1) k) with | none => rfl | some T2 => (have := (w1 T2 hq).1; omega)
            have hn0 : t_run n R cr cm T0 (l.take (k + 1)) = none := by rw [etk, t_run_app, htk]; exact t_run_0 hq
            refine ⟨?_, fg2⟩
            rw [hsc1, sc_0 _ _ _ (fun p p1 p2 => by unfold okq; rw [okq_0 hn0 p1 (by omega)]; rfl)]
            first | rw [if_pos (by omega)] | rw [if_neg (by omega)]
          · refine G_iload dX11_explained_176 rfl ?_
            refine G_goto (tgt := 182) dX11_explained_178 (by decide) ?_
            refine G_iretZ rfl dX11_explained_182 ?_
            have hq : t_step n R cr cm T (h (b + 1) k) = none := by cases hq : t_step n R cr cm T (h (b + 1) k) with | none => rfl | some T2 => (have := (w1 T2 hq).1; omega)
            have hn0 : t_run n R cr cm T0 (l.take (k + 1)) = none := by rw [etk, t_run_app, htk]; exact t_run_0 hq
            refine ⟨?_, fg2⟩
            rw [hsc1, sc_0 _ _ _ (fun p p1 p2 => by unfold okq; rw [okq_0 hn0 p1 (by omega)]; rfl)]
            first | rw [if_pos (by omega)] | rw [if_neg (by omega)]
      · refine G_iconst dX11_explained_48 ?_
        refine G_goto (tgt := 53) dX11_explained_49 (by decide) ?_
        refine G_isub dX11_explained_53 ?_
        refine G_istore_n (i := 3) (ls' := [some (.inr (some 0)), some (.inr (some b)), some (.inl i), some (.inl ((wkL (l.drop k)) - 1)), some (.inl (c : Int)), some (.inl (k : Int)), some (.inl (h (b + 1) k)), none]) dX11_explained_54 rfl (by decide) rfl ?_
        refine G_iconst dX11_explained_55 ?_
        refine G_istore (ls' := [some (.inr (some 0)), some (.inr (some b)), some (.inl i), some (.inl ((wkL (l.drop k)) - 1)), some (.inl (c : Int)), some (.inl (k : Int)), some (.inl (h (b + 1) k)), some (.inl 0)]) dX11_explained_56 (by decide) rfl ?_
        have ed := drop_s (hc k (by omega))
        rw [show (wkL (l.drop k)) - 1 = wkL (l.drop (k + 1)) from by rw [ed]; show ((if 100 ≤ (h (b + 1) k) then 1 else 0) + wkL (l.drop (k + 1))) - 1 = _; rw [if_pos (by omega)]; omega]
        refine x_explained_J d τ h hT n R cr cm hn cl T0 b L hS hb hL l hl hc okl i hi k (by omega) T ok htk hok (fun g1 c1 fg1 ft29 hc1 hsc1 => ?_) _ g 0 c (Nat.lt_succ_self _) fr ft (by omega) (by omega) (by rw [hsc]; rfl)
        refine G_aload_n (i := 0) dX11_explained_149 rfl rfl ?_
        refine G_aload_n (i := 0) dX11_explained_150 rfl rfl ?_
        refine G_getR fX11_70 rfl dX11_explained_151 (o0 hT) (r0_11 hT) ?_
        refine G_iload dX11_explained_154 rfl ?_
        refine G_cVi (as := [.inr (some 29), .inl (h (b + 1) k)]) qX11_360 (x_weaves (d + 1) τ g1 hT 29 (fl29 hT) (by decide) n R cr cm hn (cl.fr (fun b j b1 b2 => fg1 b j (by omega))) T ft29 ok (h (b + 1) k) hok) rfl rfl (Nat.le_of_ble_eq_true rfl) (o0 hT) dX11_explained_156 (fun v1 g2 e1 => ?_)
        obtain ⟨w0, w1, fr2⟩ := e1
        have hv1 : v1 = 0 ∨ v1 = 1 := by cases hq : t_step n R cr cm T (h (b + 1) k) with | none => exact Or.inl (w0 hq) | some T2 => exact Or.inr (w1 T2 hq).1
        have fg2 : FRe h g2 := fg1.tr fr2.e29
        have etk : l.take (k + 1) = l.take k ++ [(h (b + 1) k)] := by rw [List.take_succ, hc k (by omega)]; rfl
        refine G_if_ne (tgt := 165) dX11_explained_159 (by decide) (by omega) (fun c_6 => ?_) (fun c_6 => ?_)
        · refine G_iinc (ls' := [some (.inr (some 0)), some (.inr (some b)), some (.inl i), some (.inl (wkL (l.drop (k + 1)))), some (.inl (c1 : Int)), some (.inl ((k : Int) + 1)), some (.inl (h (b + 1) k)), none]) dX11_explained_165 (by decide) rfl rfl ?_
          refine G_goto (tgt := 22) dX11_explained_168 (by decide) ?_
          obtain ⟨T2, hq⟩ : ∃ T2, t_step n R cr cm T (h (b + 1) k) = some T2 := by cases hq : t_step n R cr cm T (h (b + 1) k) with | none => (have := w0 hq; omega) | some T2 => exact ⟨T2, rfl⟩
          refine G_lsub (ls' := [some (.inr (some 0)), some (.inr (some b)), some (.inl i), some (.inl (wkL (l.drop (k + 1)))), some (.inl (c1 : Int)), some (.inl ((k : Int) + 1)), none, none]) (LS_same (LS_same (LS_same (LS_same (LS_same (LS_same (LS_none (LS_none LS_nil)))))))) ?_
          exact ih g2 (k + 1) T2 c1 (by omega) fg2 (w1 T2 hq).2 (t_step_ok hn.1 cl.2.2.1.2 ok hok hq) (by rw [etk, t_run_app, htk]; exact (t_run_1 hq).trans rfl) (by omega) (by omega) hsc1
        · refine G_goto (tgt := 171) dX11_explained_162 (by decide) ?_
          refine G_iload_n (i := 2) dX11_explained_171 rfl rfl ?_
          refine G_iconst dX11_explained_172 ?_
          refine G_icmp_ne (tgt := 181) dX11_explained_173 (by decide) (by omega) (by decide) (fun c_7 => ?_) (fun c_7 => ?_)
          · refine G_iconst dX11_explained_181 ?_
            refine G_iretZ rfl dX11_explained_182 ?_
            have hq : t_step n R cr cm T (h (b + 1) k) = none := by cases hq : t_step n R cr cm T (h (b + 1) k) with | none => rfl | some T2 => (have := (w1 T2 hq).1; omega)
            have hn0 : t_run n R cr cm T0 (l.take (k + 1)) = none := by rw [etk, t_run_app, htk]; exact t_run_0 hq
            refine ⟨?_, fg2⟩
            rw [hsc1, sc_0 _ _ _ (fun p p1 p2 => by unfold okq; rw [okq_0 hn0 p1 (by omega)]; rfl)]
            first | rw [if_pos (by omega)] | rw [if_neg (by omega)]
          · refine G_iload dX11_explained_176 rfl ?_
            refine G_goto (tgt := 182) dX11_explained_178 (by decide) ?_
            refine G_iretZ rfl dX11_explained_182 ?_
            have hq : t_step n R cr cm T (h (b + 1) k) = none := by cases hq : t_step n R cr cm T (h (b + 1) k) with | none => rfl | some T2 => (have := (w1 T2 hq).1; omega)
            have hn0 : t_run n R cr cm T0 (l.take (k + 1)) = none := by rw [etk, t_run_app, htk]; exact t_run_0 hq
            refine ⟨?_, fg2⟩
            rw [hsc1, sc_0 _ _ _ (fun p p1 p2 => by unfold okq; rw [okq_0 hn0 p1 (by omega)]; rfl)]
            first | rw [if_pos (by omega)] | rw [if_neg (by omega)]

theorem x_explained (d : Nat) (τ : TT) (h : HT) (hT : TK τ) (n R : Int) (cr cm : Nat → Int) (hn : 3 ≤ n ∧ n ≤ 9) (cl : CLH h n R cr cm) (T0 : TR) (b L : Nat) (hS : ST τ b L) (hb : 126 ≤ b) (hL : L ≤ 300) (l : List Int) (hl : h b 1 = l.length ∧ l.length ≤ L) (hc : ∀ k : Nat, k < l.length → l[k]? = some (h (b + 1) k)) (okl : ∀ s ∈ l, f_okc s) (i : Int) (hi : -1 ≤ i ∧ i ≤ 2147483647) (ft0 : FT n h 24 T0) (ok0 : t_ok n T0) : S_ mX11_explained (d + 5) 0 0 [.inr (some 0), .inr (some b), .inl i] τ h (Zi τ fun v h' => v = sc (okq n R cr cm T0 l) i (3 * l.length) 0 0 ∧ FRe h h') := by
  refine S_go (k := 5) (ls := [some (.inr (some 0)), some (.inr (some b)), some (.inl i), none, none, none, none, none]) (by decide) rfl (Nat.le_of_ble_eq_true rfl) rfl ?_
  refine G_aload_n (i := 0) dX11_explained_0 rfl rfl ?_
  refine G_getR fX11_70 rfl dX11_explained_1 (o0 hT) (r0_11 hT) ?_
  refine G_aload_n (i := 0) dX11_explained_4 rfl rfl ?_
  refine G_getR fX11_67 rfl dX11_explained_5 (o0 hT) (r0_10 hT) ?_
  refine G_cVv (as := [.inr (some 24)]) qX11_163 (x_copyF (d + 3) τ h 29 (fl29 hT) 24 (fl24 hT) (by decide)) rfl rfl (Nat.le_of_ble_eq_true rfl) (o29 hT) dX11_explained_8 (fun h' e' => ?_)
  subst e'
  refine G_aload_n (i := 1) dX11_explained_11 rfl rfl ?_
  refine G_cVq (as := []) qX11_365 (x_walksIn (d + 4) τ (x_cpy h 29 24) b L hS (by rw [x_cpy_fr b 1 (by omega)]; omega) (fun k hk => by rw [x_cpy_fr b 1 (by omega)] at hk; rw [x_cpy_fr (b + 1) k (by omega)]; have := okl _ (List.mem_of_getElem? (hc k (by omega))); unfold f_okc at this; omega)) rfl rfl (Nat.le_of_ble_eq_true rfl) hS.1 dX11_explained_12 ?_
  refine G_istore_n (i := 3) (ls' := [some (.inr (some 0)), some (.inr (some b)), some (.inl i), some (.inl (x_wk (x_cpy h 29 24 (b + 1)) (x_cpy h 29 24 b 1).toNat)), none, none, none, none]) dX11_explained_15 rfl (by decide) rfl ?_
  refine G_iconst dX11_explained_16 ?_
  refine G_istore (ls' := [some (.inr (some 0)), some (.inr (some b)), some (.inl i), some (.inl (x_wk (x_cpy h 29 24 (b + 1)) (x_cpy h 29 24 b 1).toNat)), some (.inl 0), none, none, none]) dX11_explained_17 (by decide) rfl ?_
  refine G_iconst dX11_explained_19 ?_
  refine G_istore (ls' := [some (.inr (some 0)), some (.inr (some b)), some (.inl i), some (.inl (x_wk (x_cpy h 29 24 (b + 1)) (x_cpy h 29 24 b 1).toNat)), some (.inl 0), some (.inl 0), none, none]) dX11_explained_20 (by decide) rfl ?_
  have ew : x_wk (x_cpy h 29 24 (b + 1)) (x_cpy h 29 24 b 1).toNat = wkL (l.drop 0) := by rw [x_cpy_fr b 1 (by omega), hl.1, Int.toNat_natCast, show x_cpy h 29 24 (b + 1) = h (b + 1) from funext fun k => x_cpy_fr (b + 1) k (by omega), x_wk_L hc l.length (Nat.le_refl _), List.take_length, List.drop_zero]
  rw [ew]
  exact x_explained_L d τ h hT n R cr cm hn cl T0 b L hS hb hL l hl hc okl i hi _ (x_cpy h 29 24) 0 T0 0 (Nat.lt_succ_self _) (x_cpy_fr.e29) (FT_cpy (by omega) (by decide) ft0) ok0 rfl (Nat.zero_le _) (Nat.le_refl _) rfl

