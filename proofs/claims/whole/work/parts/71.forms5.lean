/-! forms: the class, cut down -/
theorem x_cutDown_L (d : Nat) (τ : TT) (h : HT) (hT : TK τ) (a : Nat) (hF : FM τ a) (n : Int) (hn : 3 ≤ n ∧ n ≤ 9) (b LB : Nat) (hB : ST τ b LB) (hb : b + 1 < a ∨ a + 4 < b) (N : Nat) (S : Nat → Int) (hN : h b 1 = (N : Int)) (hN3 : N ≤ 300 ∧ N ≤ LB) (hS : ∀ k : Nat, k < N → h (b + 1) k = S k ∧ f_okc (S k)) : ∀ (n_ : Nat) (g : HT) (i : Nat) (t : Int) (m : Nat) (F : Nat → Int), N - i < n_ → i ≤ N → FRm a h g → g a 0 = t → (0 ≤ g a 4 ∧ g a 4 ≤ i) → WIa n g a m F → w_run n S i = some (t, m, F) → G_ mX3_cutDown (d + 3) 0 0 20 [some (.inr (some a)), some (.inr (some b)), some (.inl n), some (.inl (i : Int)), none] [] τ g (Zi τ fun v h' => (w_run n S N = none → v = 0) ∧ (∀ W : WT, w_run n S N = some W → v = 1 ∧ h' a 0 = W.1 ∧ h' a 1 = (W.2.1 : Int) ∧ (W.2.1 ≤ 300 ∧ -300 ≤ W.1 ∧ W.1 ≤ 300) ∧ ∀ j : Nat, j < W.2.1 → h' (a + 1) j = w_srt n W.2.1 W.2.2 W.2.1 j) ∧ FRm a h h') := by
  intro n_
  induction n_ with
  | zero => intro g i t m F hm_; exact absurd hm_ (Nat.not_lt_zero _)
  | succ n_ ih =>
    intro g i t m F hm_ hi fr et el w er
    have wo := w_run_ok (n := n) (S := S) (by omega) i (fun j hj => (hS j (by omega)).2) _ er
    have wo1 : -(i : Int) ≤ t ∧ t ≤ i ∧ m ≤ i := ⟨wo.1, wo.2.1, wo.2.2.1⟩
    clear wo
    refine G_iload_n (i := 3) dX3_cutDown_20 rfl rfl ?_
    refine G_aload_n (i := 1) dX3_cutDown_21 rfl rfl ?_
    refine G_getI (v := (N : Int)) fX3_40 rfl dX3_cutDown_22 hB.1 (((fr _ _ (by omega)).trans hN)) ?_
    refine G_icmp_ge (tgt := 111) dX3_cutDown_25 (by decide) (by omega) (by omega) (fun c_1 => ?_) (fun c_1 => ?_)
    · refine G_aload_n (i := 0) dX3_cutDown_111 rfl rfl ?_
      refine G_cVv (as := []) qX3_56 (x_linkForward (d + 1) τ g hT a hF n hn (by omega) (fun i hi => ⟨w.lo i hi, w.cd hi⟩)) rfl rfl (Nat.le_of_ble_eq_true rfl) hF.1 dX3_cutDown_112 (fun g2 q2 => ?_)
      obtain ⟨lf, f2⟩ := q2
      have e4 : g2 a 4 = g a 4 := f2 _ _ (by omega) (by omega)
      have oi : OI n (g2 a 4).toNat (g2 (a + 2)) (g2 (a + 3)) (g2 (a + 4)) 0 m F := by rw [e4, show g2 (a + 2) = g (a + 2) from funext fun j => f2 _ j (by omega) (by omega)]; exact LF.start lf w.cm w.ok
      have hmL : m ≤ (g a 4).toNat := by have := w.cm.1; have := rq_le (P := AL (g (a + 2))) (g a 4).toNat; omega
      refine G_aload_n (i := 0) dX3_cutDown_115 rfl rfl ?_
      refine G_iload_n (i := 2) dX3_cutDown_116 rfl rfl ?_
      refine G_cVv (as := [.inl n]) qX3_59 (x_putInOrder d τ g2 hT a hF n hn (by omega) m F (by omega) oi) rfl rfl (Nat.le_of_ble_eq_true rfl) hF.1 dX3_cutDown_117 (fun g3 q3 => ?_)
      obtain ⟨k1, k2, f3⟩ := q3
      refine G_iconst dX3_cutDown_120 ?_
      refine G_zretZ rfl (by decide) dX3_cutDown_121 ?_
      obtain rfl : i = N := by omega
      refine ⟨fun q => (by rw [er] at q; cases q), fun W q => ?_, fun b j z => by rw [f3 b j (by omega) (by omega) (by omega), f2 b j (by omega) (by omega)]; exact fr b j z⟩
      rw [er] at q; cases q
      refine ⟨rfl, ?_, k1, ⟨(show m ≤ 300 by omega), (show -300 ≤ t by omega), (show t ≤ 300 by omega)⟩, k2⟩
      show g3 a 0 = t
      rw [f3 _ _ (by omega) (by omega) (by omega), f2 _ _ (by omega) (by omega)]; exact et
    · refine G_aload_n (i := 1) dX3_cutDown_28 rfl rfl ?_
      refine G_getR fX3_43 rfl dX3_cutDown_29 hB.1 hB.2.2 ?_
      refine G_iload_n (i := 3) dX3_cutDown_32 rfl rfl ?_
      refine G_iald (v := S i) dX3_cutDown_33 hB.2.1 (by omega) (((fr _ _ (by omega)).trans (hS i (by omega)).1)) ?_
      have k_ := f_okc_e (hS i (by omega)).2
      refine G_istore (ls' := [some (.inr (some a)), some (.inr (some b)), some (.inl n), some (.inl (i : Int)), some (.inl (S i))]) dX3_cutDown_34 (by decide) rfl ?_
      refine G_iload dX3_cutDown_36 rfl ?_
      refine G_bipush dX3_cutDown_38 (by decide) ?_
      refine G_icmp_lt (tgt := 67) dX3_cutDown_40 (by decide) (by omega) (by decide) (fun c_2 => ?_) (fun c_2 => ?_)
      · refine G_iload dX3_cutDown_67 rfl ?_
        refine G_bipush dX3_cutDown_69 (by decide) ?_
        refine G_idiv dX3_cutDown_71 (by omega) (by decide) ?_
        refine G_iload_n (i := 2) dX3_cutDown_72 rfl rfl ?_
        refine G_icmp_ge (tgt := 103) dX3_cutDown_73 (by decide) (by omega) (by omega) (fun c_3 => ?_) (fun c_3 => ?_)
        · refine G_iconst dX3_cutDown_103 ?_
          refine G_zretZ rfl (by decide) dX3_cutDown_104 ?_
          have e0 : w_run n S (i + 1) = none := by rw [w_run_s er]; unfold w_st; rw [if_neg (by omega), if_pos (by omega)]
          have eN : w_run n S N = none := by have := w_run_no e0 (N - (i + 1)); rwa [show i + 1 + (N - (i + 1)) = N by omega] at this
          exact ⟨fun _ => rfl, fun W q => (by rw [eN] at q; cases q), fr⟩
        · refine G_aload_n (i := 0) dX3_cutDown_76 rfl rfl ?_
          refine G_iload dX3_cutDown_77 rfl ?_
          refine G_bipush dX3_cutDown_79 (by decide) ?_
          refine G_idiv dX3_cutDown_81 (by omega) (by decide) ?_
          refine G_aload_n (i := 0) dX3_cutDown_82 rfl rfl ?_
          refine G_getI (v := t) fX3_9 rfl dX3_cutDown_83 hF.1 (et) ?_
          refine G_isub dX3_cutDown_86 ?_
          refine G_iload_n (i := 2) dX3_cutDown_87 rfl rfl ?_
          refine G_cSq (as := [.inl (((S i).tdiv 10) - t), .inl n]) qX3_46 (j_floorMod (d + 2) τ g (((S i).tdiv 10) - t) n (by omega) (by omega) (by omega)) rfl rfl (Nat.le_of_ble_eq_true rfl) dX3_cutDown_88 ?_
          refine G_iload dX3_cutDown_91 rfl ?_
          refine G_bipush dX3_cutDown_93 (by decide) ?_
          refine G_irem dX3_cutDown_95 (by omega) (by decide) ?_
          refine G_iload_n (i := 2) dX3_cutDown_96 rfl rfl ?_
          refine G_cVv (as := [.inl ((((S i).tdiv 10) - t) % n), .inl ((S i).tmod 10), .inl n]) qX3_52 (x_meet (d + 1) τ g hT a hF n ((((S i).tdiv 10) - t) % n) ((S i).tmod 10) hn ⟨Int.emod_nonneg _ (by omega), Int.emod_lt_of_pos _ (by omega)⟩ (by omega) (by omega) m F w) rfl rfl (Nat.le_of_ble_eq_true rfl) hF.1 dX3_cutDown_97 (fun g1 q1 => ?_)
          obtain ⟨w1, l1, t1, f1⟩ := q1
          refine G_goto (tgt := 105) dX3_cutDown_100 (by decide) ?_
          refine G_iinc (ls' := [some (.inr (some a)), some (.inr (some b)), some (.inl n), some (.inl ((i : Int) + 1)), some (.inl (S i))]) dX3_cutDown_105 (by decide) rfl rfl ?_
          refine G_goto (tgt := 20) dX3_cutDown_108 (by decide) ?_
          refine G_lsub (ls' := [some (.inr (some a)), some (.inr (some b)), some (.inl n), some (.inl ((i : Int) + 1)), none]) (LS_same (LS_same (LS_same (LS_same (LS_none LS_nil))))) ?_
          refine ih g1 (i + 1) t _ _ (by omega) (by omega) (fr.tr f1) (t1.trans et) (by omega) w1 ?_
          rw [w_run_s er]; unfold w_st; rw [if_neg (by omega), if_neg (by omega)]; rfl
      · refine G_aload_n (i := 0) dX3_cutDown_43 rfl rfl ?_
        refine G_dup dX3_cutDown_44 ?_
        refine G_getI (v := t) fX3_9 rfl dX3_cutDown_45 hF.1 (et) ?_
        refine G_iload dX3_cutDown_48 rfl ?_
        refine G_bipush dX3_cutDown_50 (by decide) ?_
        refine G_icmp_ne (tgt := 59) dX3_cutDown_52 (by decide) (by omega) (by decide) (fun c_4 => ?_) (fun c_4 => ?_)
        · refine G_iconst dX3_cutDown_59 ?_
          refine G_iadd dX3_cutDown_60 ?_
          refine G_putI fX3_9 dX3_cutDown_61 hF.1 ?_
          refine G_goto (tgt := 105) dX3_cutDown_64 (by decide) ?_
          refine G_iinc (ls' := [some (.inr (some a)), some (.inr (some b)), some (.inl n), some (.inl ((i : Int) + 1)), some (.inl (S i))]) dX3_cutDown_105 (by decide) rfl rfl ?_
          refine G_goto (tgt := 20) dX3_cutDown_108 (by decide) ?_
          refine G_lsub (ls' := [some (.inr (some a)), some (.inr (some b)), some (.inl n), some (.inl ((i : Int) + 1)), none]) (LS_same (LS_same (LS_same (LS_same (LS_none LS_nil))))) ?_
          refine ih _ (i + 1) (t + (-1)) m F (by omega) (by omega) (fr.tr (fun b j z => hs_na (by omega))) hs_eq (by rw [hs_ni (by decide)]; omega) (WIa_0 w) ?_
          rw [w_run_s er]; unfold w_st; rw [if_pos (by omega)]
          show some (t + (if S i = 100 then 1 else -1), m, F) = _
          rw [if_neg (by omega)]
        · refine G_iconst dX3_cutDown_55 ?_
          refine G_goto (tgt := 60) dX3_cutDown_56 (by decide) ?_
          refine G_iadd dX3_cutDown_60 ?_
          refine G_putI fX3_9 dX3_cutDown_61 hF.1 ?_
          refine G_goto (tgt := 105) dX3_cutDown_64 (by decide) ?_
          refine G_iinc (ls' := [some (.inr (some a)), some (.inr (some b)), some (.inl n), some (.inl ((i : Int) + 1)), some (.inl (S i))]) dX3_cutDown_105 (by decide) rfl rfl ?_
          refine G_goto (tgt := 20) dX3_cutDown_108 (by decide) ?_
          refine G_lsub (ls' := [some (.inr (some a)), some (.inr (some b)), some (.inl n), some (.inl ((i : Int) + 1)), none]) (LS_same (LS_same (LS_same (LS_same (LS_none LS_nil))))) ?_
          refine ih _ (i + 1) (t + 1) m F (by omega) (by omega) (fr.tr (fun b j z => hs_na (by omega))) hs_eq (by rw [hs_ni (by decide)]; omega) (WIa_0 w) ?_
          rw [w_run_s er]; unfold w_st; rw [if_pos (by omega)]
          show some (t + (if S i = 100 then 1 else -1), m, F) = _
          rw [if_pos (by omega)]

theorem x_cutDown (d : Nat) (τ : TT) (h : HT) (hT : TK τ) (a : Nat) (hF : FM τ a) (n : Int) (hn : 3 ≤ n ∧ n ≤ 9) (b LB : Nat) (hB : ST τ b LB) (hb : b + 1 < a ∨ a + 4 < b) (N : Nat) (S : Nat → Int) (hN : h b 1 = (N : Int)) (hN3 : N ≤ 300 ∧ N ≤ LB) (hS : ∀ k : Nat, k < N → h (b + 1) k = S k ∧ f_okc (S k)) : S_ mX3_cutDown (d + 3) 0 0 [.inr (some a), .inr (some b), .inl n] τ h (Zi τ fun v h' => (w_run n S N = none → v = 0) ∧ (∀ W : WT, w_run n S N = some W → v = 1 ∧ h' a 0 = W.1 ∧ h' a 1 = (W.2.1 : Int) ∧ (W.2.1 ≤ 300 ∧ -300 ≤ W.1 ∧ W.1 ≤ 300) ∧ ∀ j : Nat, j < W.2.1 → h' (a + 1) j = w_srt n W.2.1 W.2.2 W.2.1 j) ∧ FRm a h h') := by
  refine S_go (k := 2) (ls := [some (.inr (some a)), some (.inr (some b)), some (.inl n), none, none]) (by decide) rfl (Nat.le_of_ble_eq_true rfl) rfl ?_
  refine G_aload_n (i := 0) dX3_cutDown_0 rfl rfl ?_
  refine G_iconst dX3_cutDown_1 ?_
  refine G_putI fX3_9 dX3_cutDown_2 hF.1 ?_
  refine G_aload_n (i := 0) dX3_cutDown_5 rfl rfl ?_
  refine G_iconst dX3_cutDown_6 ?_
  refine G_putI fX3_25 dX3_cutDown_7 hF.1 ?_
  refine G_aload_n (i := 0) dX3_cutDown_10 rfl rfl ?_
  refine G_getR fX3_31 rfl dX3_cutDown_11 hF.1 hF.2.2.2.2.2.2.2.2 ?_
  refine G_iconst dX3_cutDown_14 ?_
  refine G_cSv (as := [.inr (some (a + 4)), .inl (-1)]) qX3_34 (j_fill (d + 2) τ (hs_ (hs_ h a 0 0) a 4 0) (a + 4) 9 hF.2.2.2.2.1 (-1)) rfl rfl (Nat.le_of_ble_eq_true rfl) dX3_cutDown_15 (fun h' e' => ?_)
  subst e'
  refine G_iconst dX3_cutDown_18 ?_
  refine G_istore_n (i := 3) (ls' := [some (.inr (some a)), some (.inr (some b)), some (.inl n), some (.inl 0), none]) dX3_cutDown_19 rfl (by decide) rfl ?_
  refine x_cutDown_L d τ h hT a hF n hn b LB hB hb N S hN hN3 hS _ _ 0 0 0 (fun _ => 0) (Nat.lt_succ_self _) (Nat.zero_le _) (fun b j z => ?_) ?_ ?_ ?_ rfl
  · rw [hf_na (by omega), hs_na (by omega), hs_na (by omega)]
  · rw [hf_na (by omega), hs_ni (by decide), hs_eq]
  · rw [hf_na (by omega), hs_eq]; omega
  · have e0 : ((hf_ (hs_ (hs_ h a 0 0) a 4 0) (a + 4) 0 9 (fun _ => (-1))) a 4).toNat = 0 := by rw [hf_na (by omega), hs_eq]; rfl
    unfold WIa; rw [e0]
    refine ⟨⟨rfl, fun i hi => absurd hi (Nat.not_lt_zero _)⟩, fun j hj => absurd hj (Nat.not_lt_zero _), fun p hp => ?_, fun i hi => absurd hi (Nat.not_lt_zero _), fun i hi => absurd hi (Nat.not_lt_zero _)⟩
    rw [hf_in (by omega)]
    exact ⟨by decide, by decide, fun q => absurd q (by decide), fun i hi => absurd hi (Nat.not_lt_zero _)⟩

theorem x_isLike_L (d : Nat) (τ : TT) (h : HT) (hT : TK τ) (a : Nat) (hF : FM τ a) (b : Nat) (hG : FM τ b) (ha : 0 ≤ h a 1 ∧ h a 1 ≤ 300) (hb : 0 ≤ h b 1 ∧ h b 1 ≤ 300) (h0 : -1000 ≤ h a 0 ∧ h a 0 ≤ 1000) (h1 : -1000 ≤ h b 0 ∧ h b 0 ≤ 1000) (hr : ∀ j : Nat, j < 300 → ((j : Int) < h a 1 → 0 ≤ h (a + 1) j ∧ h (a + 1) j ≤ 99) ∧ ((j : Int) < h b 1 → 0 ≤ h (b + 1) j ∧ h (b + 1) j ≤ 99)) (eq : h a 0 = h b 0 ∧ h a 1 = h b 1) : ∀ (n_ : Nat) (i : Nat), (h a 1).toNat - i < n_ → (i : Int) ≤ h a 1 → (∀ j : Nat, j < i → h (b + 1) j = h (a + 1) j) → G_ mX3_isLike d 0 0 26 [some (.inr (some a)), some (.inr (some b)), some (.inl (i : Int))] [] τ h (Zi τ fun v h' => ((v = 1 ∧ ((h a 0 = h b 0 ∧ h a 1 = h b 1) ∧ ∀ j : Nat, (j : Int) < h a 1 → h (b + 1) j = h (a + 1) j)) ∨ (v = 0 ∧ ¬ ((h a 0 = h b 0 ∧ h a 1 = h b 1) ∧ ∀ j : Nat, (j : Int) < h a 1 → h (b + 1) j = h (a + 1) j))) ∧ h' = h) := by
  intro n_
  induction n_ with
  | zero => intro i hm_; exact absurd hm_ (Nat.not_lt_zero _)
  | succ n_ ih =>
    intro i hm_ hi hj_
    refine G_iload_n (i := 2) dX3_isLike_26 rfl rfl ?_
    refine G_aload_n (i := 0) dX3_isLike_27 rfl rfl ?_
    refine G_getI (v := h a 1) fX3_15 rfl dX3_isLike_28 hF.1 rfl ?_
    refine G_icmp_ge (tgt := 57) dX3_isLike_31 (by decide) (by omega) (by omega) (fun c_1 => ?_) (fun c_1 => ?_)
    · refine G_iconst dX3_isLike_57 ?_
      refine G_zretZ rfl (by decide) dX3_isLike_58 ?_
      exact ⟨Or.inl ⟨rfl, eq, fun j hj => hj_ j (by omega)⟩, rfl⟩
    · refine G_aload_n (i := 0) dX3_isLike_34 rfl rfl ?_
      refine G_getR fX3_18 rfl dX3_isLike_35 hF.1 hF.2.2.2.2.2.1 ?_
      have r_ := hr i (by omega)
      refine G_iload_n (i := 2) dX3_isLike_38 rfl rfl ?_
      refine G_iald (v := h (a + 1) i) dX3_isLike_39 hF.2.1 (by omega) rfl ?_
      refine G_aload_n (i := 1) dX3_isLike_40 rfl rfl ?_
      refine G_getR fX3_18 rfl dX3_isLike_41 hG.1 hG.2.2.2.2.2.1 ?_
      refine G_iload_n (i := 2) dX3_isLike_44 rfl rfl ?_
      refine G_iald (v := h (b + 1) i) dX3_isLike_45 hG.2.1 (by omega) rfl ?_
      refine G_icmp_eq (tgt := 51) dX3_isLike_46 (by decide) (by omega) (by omega) (fun c_2 => ?_) (fun c_2 => ?_)
      · refine G_iinc (ls' := [some (.inr (some a)), some (.inr (some b)), some (.inl ((i : Int) + 1))]) dX3_isLike_51 (by decide) rfl rfl ?_
        refine G_goto (tgt := 26) dX3_isLike_54 (by decide) ?_
        refine ih (i + 1) (by omega) (by omega) (fun j hj => ?_)
        by_cases z : j = i
        · subst z; omega
        · exact hj_ j (by omega)
      · refine G_iconst dX3_isLike_49 ?_
        refine G_zretZ rfl (by decide) dX3_isLike_50 ?_
        exact ⟨Or.inr ⟨rfl, fun q => (by have := q.2 i (by omega); omega)⟩, rfl⟩

theorem x_isLike (d : Nat) (τ : TT) (h : HT) (hT : TK τ) (a : Nat) (hF : FM τ a) (b : Nat) (hG : FM τ b) (ha : 0 ≤ h a 1 ∧ h a 1 ≤ 300) (hb : 0 ≤ h b 1 ∧ h b 1 ≤ 300) (h0 : -1000 ≤ h a 0 ∧ h a 0 ≤ 1000) (h1 : -1000 ≤ h b 0 ∧ h b 0 ≤ 1000) (hr : ∀ j : Nat, j < 300 → ((j : Int) < h a 1 → 0 ≤ h (a + 1) j ∧ h (a + 1) j ≤ 99) ∧ ((j : Int) < h b 1 → 0 ≤ h (b + 1) j ∧ h (b + 1) j ≤ 99)) : S_ mX3_isLike d 0 0 [.inr (some a), .inr (some b)] τ h (Zi τ fun v h' => ((v = 1 ∧ ((h a 0 = h b 0 ∧ h a 1 = h b 1) ∧ ∀ j : Nat, (j : Int) < h a 1 → h (b + 1) j = h (a + 1) j)) ∨ (v = 0 ∧ ¬ ((h a 0 = h b 0 ∧ h a 1 = h b 1) ∧ ∀ j : Nat, (j : Int) < h a 1 → h (b + 1) j = h (a + 1) j))) ∧ h' = h) := by
  refine S_go (k := 1) (ls := [some (.inr (some a)), some (.inr (some b)), none]) (by decide) rfl (Nat.le_of_ble_eq_true rfl) rfl ?_
  refine G_aload_n (i := 0) dX3_isLike_0 rfl rfl ?_
  refine G_getI (v := h a 0) fX3_9 rfl dX3_isLike_1 hF.1 rfl ?_
  refine G_aload_n (i := 1) dX3_isLike_4 rfl rfl ?_
  refine G_getI (v := h b 0) fX3_9 rfl dX3_isLike_5 hG.1 rfl ?_
  refine G_icmp_ne (tgt := 22) dX3_isLike_8 (by decide) (by omega) (by omega) (fun c_1 => ?_) (fun c_1 => ?_)
  · refine G_iconst dX3_isLike_22 ?_
    refine G_zretZ rfl (by decide) dX3_isLike_23 ?_
    exact ⟨Or.inr ⟨rfl, fun q => (by omega)⟩, rfl⟩
  · refine G_aload_n (i := 0) dX3_isLike_11 rfl rfl ?_
    refine G_getI (v := h a 1) fX3_15 rfl dX3_isLike_12 hF.1 rfl ?_
    refine G_aload_n (i := 1) dX3_isLike_15 rfl rfl ?_
    refine G_getI (v := h b 1) fX3_15 rfl dX3_isLike_16 hG.1 rfl ?_
    refine G_icmp_eq (tgt := 24) dX3_isLike_19 (by decide) (by omega) (by omega) (fun c_2 => ?_) (fun c_2 => ?_)
    · refine G_iconst dX3_isLike_24 ?_
      refine G_istore_n (i := 2) (ls' := [some (.inr (some a)), some (.inr (some b)), some (.inl 0)]) dX3_isLike_25 rfl (by decide) rfl ?_
      exact x_isLike_L d τ h hT a hF b hG ha hb h0 h1 hr ⟨by omega, by omega⟩ _ 0 (Nat.lt_succ_self _) (by omega) (fun j hj => absurd hj (Nat.not_lt_zero _))
    · refine G_iconst dX3_isLike_22 ?_
      refine G_zretZ rfl (by decide) dX3_isLike_23 ?_
      exact ⟨Or.inr ⟨rfl, fun q => (by omega)⟩, rfl⟩

