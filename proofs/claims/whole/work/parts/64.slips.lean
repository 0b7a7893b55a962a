/-! operations: slips -/
def so_ (j : Nat) (s : Int) : List Int := if j = 0 then [] else if j = 1 then [o_un s] else [s, s]
def wkL : List Int → Int
  | [] => 0
  | s :: t => (if 100 ≤ s then 1 else 0) + wkL t
theorem wkL_r : ∀ l : List Int, 0 ≤ wkL l ∧ wkL l ≤ l.length
  | [] => ⟨Int.le_refl 0, Int.le_refl 0⟩
  | s :: t => by
    have := wkL_r t
    show 0 ≤ (if 100 ≤ s then 1 else 0) + wkL t ∧ (if 100 ≤ s then 1 else 0) + wkL t ≤ (((s :: t).length : Nat) : Int)
    rw [List.length_cons]
    split <;> omega
theorem wkL_app (k : List Int) : ∀ l : List Int, wkL (l ++ k) = wkL l + wkL k
  | [] => by show wkL k = 0 + wkL k; omega
  | s :: t => by
    show (if 100 ≤ s then 1 else 0) + wkL (t ++ k) = (if 100 ≤ s then 1 else 0) + wkL t + wkL k
    rw [wkL_app k t]; omega
theorem x_wk_L {f : Nat → Int} {l : List Int} (hc : ∀ k : Nat, k < l.length → l[k]? = some (f k)) : ∀ k : Nat, k ≤ l.length → x_wk f k = wkL (l.take k)
  | 0, _ => by rw [List.take_zero]; rfl
  | k + 1, hk => by
    have e := hc k (by omega)
    rw [List.take_succ, e, wkL_app, ← x_wk_L hc k (by omega)]
    show x_wk f k + (if 100 ≤ f k then 1 else 0) = x_wk f k + ((if 100 ≤ f k then 1 else 0) + 0)
    omega
theorem t_step_r {n R : Int} {cr cm : Nat → Int} {T T' : TR} {s : Int} (e : t_step n R cr cm T s = some T') : T'.2.1 = T.2.1 + if 100 ≤ s then 1 else 0 := by
  unfold t_step at e
  by_cases h1 : T.1 = 300
  · rw [if_pos h1] at e; cases e
  rw [if_neg h1] at e
  by_cases h2 : 100 ≤ s
  · rw [if_pos h2] at e
    unfold t_walk at e
    by_cases h3 : t_wA n R (T.1 + 1, T.2)
    · rw [if_pos h3] at e
      by_cases h4 : t_wB n cr cm (T.1 + 1, T.2) (s - 100)
      · rw [if_pos h4] at e; cases e; rw [if_pos h2]
      · rw [if_neg h4] at e; cases e
    · rw [if_neg h3] at e; cases e
  · rw [if_neg h2] at e
    rw [if_neg h2]
    unfold t_pass at e
    by_cases h3 : n ≤ s.tdiv 10
    · rw [if_pos h3] at e; cases e
    rw [if_neg h3] at e
    dsimp only at e
    split at e
    · split at e
      · cases e
      · cases e; show T.2.1 = T.2.1 + 0; omega
    · split at e
      · cases e
      · cases e; show T.2.1 = T.2.1 + 0; omega
theorem t_run_r {n R : Int} {cr cm : Nat → Int} : ∀ (l : List Int) {T T' : TR}, t_run n R cr cm T l = some T' → T'.2.1 = T.2.1 + wkL l
  | [], T, T', e => by cases e; show T.2.1 = T.2.1 + 0; omega
  | s :: t, T, T', e => by
    cases q : t_step n R cr cm T s with
    | none => rw [t_run_0 q] at e; cases e
    | some T2 =>
      rw [t_run_1 q] at e
      have := t_run_r t e
      have := t_step_r q
      show T'.2.1 = T.2.1 + ((if 100 ≤ s then 1 else 0) + wkL t)
      omega
theorem t_run_ok {n R : Int} {cr cm : Nat → Int} (hn : 3 ≤ n) (hR : R ≤ 100) : ∀ (l : List Int) {T T' : TR}, t_ok n T → (∀ s ∈ l, f_okc s) → t_run n R cr cm T l = some T' → t_ok n T'
  | [], T, T', x, _, e => by cases e; exact x
  | s :: t, T, T', x, hs, e => by
    cases q : t_step n R cr cm T s with
    | none => rw [t_run_0 q] at e; cases e
    | some T2 =>
      rw [t_run_1 q] at e
      exact t_run_ok hn hR t (t_step_ok hn hR x (hs s List.mem_cons_self) q) (fun u hu => hs u (List.mem_cons_of_mem _ hu)) e
theorem sl_past {a s : Int} : ∀ (l : List Int) (k : Nat), a < k → sl_l a s k l = l
  | [], _, _ => rfl
  | x :: t, k, h => by
    show sl_one a s k x ++ sl_l a s (k + 1) t = x :: t
    rw [sl_past t (k + 1) (by omega)]
    unfold sl_one
    rw [if_neg (by omega), if_neg (by omega), if_neg (by omega)]
    rfl
theorem sl_split {j : Nat} (hj : j < 3) : ∀ (l : List Int) (k b : Nat) (c : Int), l[k]? = some c → sl_l ((b + k : Nat) : Int) (j : Int) b l = l.take k ++ (so_ j c ++ l.drop (k + 1))
  | [], k, b, c, e => by simp at e
  | x :: t, 0, b, c, e => by
    have e2 : x = c := by simpa using e
    subst e2
    show sl_one ((b + 0 : Nat) : Int) (j : Int) b x ++ sl_l ((b + 0 : Nat) : Int) (j : Int) (b + 1) t = [] ++ (so_ j x ++ t)
    rw [sl_past t (b + 1) (by omega), List.nil_append]
    congr 1
    unfold sl_one so_
    rcases (show j = 0 ∨ j = 1 ∨ j = 2 by omega) with rfl | rfl | rfl
    · rw [if_pos (by omega), if_pos rfl]
    · rw [if_neg (by omega), if_pos (by omega), if_neg (by decide), if_pos rfl]
    · rw [if_neg (by omega), if_neg (by omega), if_pos (by omega), if_neg (by decide), if_neg (by decide)]
  | x :: t, k + 1, b, c, e => by
    have e2 : t[k]? = some c := by simpa using e
    have ih := sl_split hj t k (b + 1) c e2
    show sl_one ((b + (k + 1) : Nat) : Int) (j : Int) b x ++ sl_l ((b + (k + 1) : Nat) : Int) (j : Int) (b + 1) t = x :: (t.take k) ++ (so_ j c ++ t.drop (k + 1))
    rw [show b + (k + 1) = b + 1 + k by omega, ih]
    unfold sl_one
    rw [if_neg (by omega), if_neg (by omega), if_neg (by omega)]
    rfl
/-- whether the slip j at k is right -/
theorem okq_e {n R : Int} {cr cm : Nat → Int} {T0 T : TR} {l : List Int} {k j : Nat} {c : Int} (hj : j < 3) (e : l[k]? = some c) (ht : t_run n R cr cm T0 (l.take k) = some T) : t_run n R cr cm T0 (sl_l (((3 * k + j) / 3 : Nat) : Int) (((3 * k + j) % 3 : Nat) : Int) 0 l) = t_run n R cr cm T (so_ j c ++ l.drop (k + 1)) := by
  rw [show (3 * k + j) / 3 = 0 + k by omega, show (3 * k + j) % 3 = j by omega, sl_split hj l k 0 c e, t_run_app, ht]
theorem okq_0 {n R : Int} {cr cm : Nat → Int} {T0 : TR} {l : List Int} {k q : Nat} (ht : t_run n R cr cm T0 (l.take (k + 1)) = none) (hq : 3 * (k + 1) ≤ q) (hq2 : q < 3 * l.length) : t_run n R cr cm T0 (sl_l ((q / 3 : Nat) : Int) ((q % 3 : Nat) : Int) 0 l) = none := by
  have h1 : q / 3 < l.length := by omega
  have e : l[q / 3]? = some l[q / 3] := List.getElem?_eq_getElem h1
  have := sl_split (j := q % 3) (by omega) l (q / 3) 0 _ e
  rw [Nat.zero_add] at this
  rw [this]
  have e2 : l.take (q / 3) = l.take (k + 1) ++ (l.drop (k + 1)).take (q / 3 - (k + 1)) := by
    rw [← List.take_add, show k + 1 + (q / 3 - (k + 1)) = q / 3 by omega]
  rw [e2, List.append_assoc, t_run_app, ht]
theorem sc_0 {ok : Nat → Int} {i : Int} : ∀ (n q : Nat) (c : Int), (∀ p : Nat, q ≤ p → p < q + n → ok p = 0) → sc ok i n q c = if i = -1 then c else -1
  | 0, _, _, _ => rfl
  | n + 1, q, c, h => by
    show (if ok q = 1 then _ else sc ok i n (q + 1) c) = _
    rw [if_neg (by rw [h q (Nat.le_refl _) (by omega)]; decide)]
    exact sc_0 n (q + 1) c (fun p p1 p2 => h p (by omega) (by omega))
theorem x_weavesSlipped_0 (d : Nat) (τ : TT) (h : HT) (hT : TK τ) (a : Nat) (hF : FL τ a) (ha : 29 ≤ a ∧ a ≤ 34) (n R : Int) (cr cm : Nat → Int) (hn : 3 ≤ n ∧ n ≤ 9) (cl : CLH h n R cr cm) (T : TR) (ft : FT n h a T) (ok : t_ok n T) (s : Int) (hs : f_okc s) : S_ mX11_weavesSlipped (d + 4) 0 0 [.inr (some 0), .inr (some a), .inl s, .inl 0] τ h (Zi τ fun v h' => (t_run n R cr cm T (so_ 0 s) = none → v = 0) ∧ (∀ T', t_run n R cr cm T (so_ 0 s) = some T' → v = 1 ∧ FT n h' a T') ∧ FRl a h h') := by
  refine S_go (k := 0) (ls := [some (.inr (some 0)), some (.inr (some a)), some (.inl s), some (.inl 0)]) (by decide) rfl (Nat.le_of_ble_eq_true rfl) rfl ?_
  refine G_iload_n (i := 3) dX11_weavesSlipped_0 rfl rfl ?_
  refine G_lsw (off := 27) (tgt := 28) dX11_weavesSlipped_1 (by decide) (by decide) (by decide) (by decide) ?_
  refine G_iconst dX11_weavesSlipped_28 ?_
  refine G_zretZ rfl (by decide) dX11_weavesSlipped_29 ?_
  exact ⟨fun q => (by cases q), fun T' q => (by cases q; exact ⟨rfl, ft⟩), FRl.rf⟩

theorem x_weavesSlipped_1 (d : Nat) (τ : TT) (h : HT) (hT : TK τ) (a : Nat) (hF : FL τ a) (ha : 29 ≤ a ∧ a ≤ 34) (n R : Int) (cr cm : Nat → Int) (hn : 3 ≤ n ∧ n ≤ 9) (cl : CLH h n R cr cm) (T : TR) (ft : FT n h a T) (ok : t_ok n T) (s : Int) (hs : f_okc s) : S_ mX11_weavesSlipped (d + 4) 0 0 [.inr (some 0), .inr (some a), .inl s, .inl 1] τ h (Zi τ fun v h' => (t_run n R cr cm T (so_ 1 s) = none → v = 0) ∧ (∀ T', t_run n R cr cm T (so_ 1 s) = some T' → v = 1 ∧ FT n h' a T') ∧ FRl a h h') := by
  refine S_go (k := 0) (ls := [some (.inr (some 0)), some (.inr (some a)), some (.inl s), some (.inl 1)]) (by decide) rfl (Nat.le_of_ble_eq_true rfl) rfl ?_
  refine G_iload_n (i := 3) dX11_weavesSlipped_0 rfl rfl ?_
  refine G_lsw (off := 29) (tgt := 30) dX11_weavesSlipped_1 (by decide) (by decide) (by decide) (by decide) ?_
  refine G_aload_n (i := 0) dX11_weavesSlipped_30 rfl rfl ?_
  refine G_aload_n (i := 1) dX11_weavesSlipped_31 rfl rfl ?_
  refine G_iload_n (i := 2) dX11_weavesSlipped_32 rfl rfl ?_
  refine G_iconst dX11_weavesSlipped_33 ?_
  refine G_ixor dX11_weavesSlipped_34 ?_
  refine G_cVi (as := [.inr (some a), .inl (b_xor s 1)]) qX11_360 (x_weaves d τ h hT a hF ha n R cr cm hn cl T ft ok (b_xor s 1) (by rw [o_un_x hs]; exact o_un_ok hs)) rfl rfl (Nat.le_of_ble_eq_true rfl) (o0 hT) dX11_weavesSlipped_35 (fun v1 g e1 => ?_)
  obtain ⟨w0, w1, fr1⟩ := e1
  have hv1 : v1 = 0 ∨ v1 = 1 := by cases hq : t_step n R cr cm T (b_xor s 1) with | none => exact Or.inl (w0 hq) | some T2 => exact Or.inr (w1 T2 hq).1
  refine G_zretZ rfl (by omega) dX11_weavesSlipped_38 ?_
  have er : t_run n R cr cm T (so_ 1 s) = t_step n R cr cm T (b_xor s 1) := by rw [o_un_x hs]; show t_run n R cr cm T [o_un s] = _; cases hq : t_step n R cr cm T (o_un s) with | none => rw [t_run_0 hq] | some T2 => rw [t_run_1 hq]; rfl
  rw [er]
  exact ⟨w0, w1, fr1⟩

theorem x_weavesSlipped_2 (d : Nat) (τ : TT) (h : HT) (hT : TK τ) (a : Nat) (hF : FL τ a) (ha : 29 ≤ a ∧ a ≤ 34) (n R : Int) (cr cm : Nat → Int) (hn : 3 ≤ n ∧ n ≤ 9) (cl : CLH h n R cr cm) (T : TR) (ft : FT n h a T) (ok : t_ok n T) (s : Int) (hs : f_okc s) : S_ mX11_weavesSlipped (d + 4) 0 0 [.inr (some 0), .inr (some a), .inl s, .inl 2] τ h (Zi τ fun v h' => (t_run n R cr cm T (so_ 2 s) = none → v = 0) ∧ (∀ T', t_run n R cr cm T (so_ 2 s) = some T' → v = 1 ∧ FT n h' a T') ∧ FRl a h h') := by
  refine S_go (k := 0) (ls := [some (.inr (some 0)), some (.inr (some a)), some (.inl s), some (.inl 2)]) (by decide) rfl (Nat.le_of_ble_eq_true rfl) rfl ?_
  refine G_iload_n (i := 3) dX11_weavesSlipped_0 rfl rfl ?_
  refine G_lsw (off := 38) (tgt := 39) dX11_weavesSlipped_1 (by decide) (by decide) (by decide) (by decide) ?_
  refine G_aload_n (i := 0) dX11_weavesSlipped_39 rfl rfl ?_
  refine G_aload_n (i := 1) dX11_weavesSlipped_40 rfl rfl ?_
  refine G_iload_n (i := 2) dX11_weavesSlipped_41 rfl rfl ?_
  refine G_cVi (as := [.inr (some a), .inl s]) qX11_360 (x_weaves d τ h hT a hF ha n R cr cm hn cl T ft ok s hs) rfl rfl (Nat.le_of_ble_eq_true rfl) (o0 hT) dX11_weavesSlipped_42 (fun v1 g e1 => ?_)
  obtain ⟨w0, w1, fr1⟩ := e1
  have hv1 : v1 = 0 ∨ v1 = 1 := by cases hq : t_step n R cr cm T s with | none => exact Or.inl (w0 hq) | some T2 => exact Or.inr (w1 T2 hq).1
  refine G_if_eq (tgt := 61) dX11_weavesSlipped_45 (by decide) (by omega) (fun c_1 => ?_) (fun c_1 => ?_)
  · refine G_iconst dX11_weavesSlipped_61 ?_
    refine G_zretZ rfl (by decide) dX11_weavesSlipped_62 ?_
    have hq : t_step n R cr cm T s = none := by cases hq : t_step n R cr cm T s with | none => rfl | some T2 => (have := (w1 T2 hq).1; omega)
    have er : t_run n R cr cm T (so_ 2 s) = none := t_run_0 hq
    exact ⟨fun _ => rfl, fun T' q => (by rw [er] at q; cases q), fr1⟩
  · obtain ⟨T2, hq⟩ : ∃ T2, t_step n R cr cm T s = some T2 := by cases hq : t_step n R cr cm T s with | none => (have := w0 hq; omega) | some T2 => exact ⟨T2, rfl⟩
    have ft2 := (w1 T2 hq).2
    have ok2 := t_step_ok hn.1 cl.2.2.1.2 ok hs hq
    refine G_aload_n (i := 0) dX11_weavesSlipped_48 rfl rfl ?_
    refine G_aload_n (i := 1) dX11_weavesSlipped_49 rfl rfl ?_
    refine G_iload_n (i := 2) dX11_weavesSlipped_50 rfl rfl ?_
    refine G_cVi (as := [.inr (some a), .inl s]) qX11_360 (x_weaves d τ g hT a hF ha n R cr cm hn (cl.fr (fun b j b1 b2 => fr1 b j (by omega))) T2 ft2 ok2 s hs) rfl rfl (Nat.le_of_ble_eq_true rfl) (o0 hT) dX11_weavesSlipped_51 (fun v2 g2 e2 => ?_)
    obtain ⟨x0, x1, fr2⟩ := e2
    have hv2 : v2 = 0 ∨ v2 = 1 := by cases hq : t_step n R cr cm T2 s with | none => exact Or.inl (x0 hq) | some T3 => exact Or.inr (x1 T3 hq).1
    refine G_if_eq (tgt := 61) dX11_weavesSlipped_54 (by decide) (by omega) (fun c_2 => ?_) (fun c_2 => ?_)
    · refine G_iconst dX11_weavesSlipped_61 ?_
      refine G_zretZ rfl (by decide) dX11_weavesSlipped_62 ?_
      have hq3 : t_step n R cr cm T2 s = none := by cases hq3 : t_step n R cr cm T2 s with | none => rfl | some T3 => (have := (x1 T3 hq3).1; omega)
      have er : t_run n R cr cm T (so_ 2 s) = none := (t_run_1 hq).trans (t_run_0 hq3)
      exact ⟨fun _ => rfl, fun T' q => (by rw [er] at q; cases q), fr1.tr fr2⟩
    · refine G_iconst dX11_weavesSlipped_57 ?_
      refine G_goto (tgt := 62) dX11_weavesSlipped_58 (by decide) ?_
      refine G_zretZ rfl (by decide) dX11_weavesSlipped_62 ?_
      obtain ⟨T3, hq3⟩ : ∃ T3, t_step n R cr cm T2 s = some T3 := by cases hq3 : t_step n R cr cm T2 s with | none => (have := x0 hq3; omega) | some T3 => exact ⟨T3, rfl⟩
      have er : t_run n R cr cm T (so_ 2 s) = some T3 := (t_run_1 hq).trans ((t_run_1 hq3).trans rfl)
      exact ⟨fun q => (by rw [er] at q; cases q), fun T' q => (by rw [er] at q; cases q; exact ⟨rfl, (x1 T3 hq3).2⟩), fr1.tr fr2⟩

theorem x_weavesSlipped (d : Nat) (τ : TT) (h : HT) (hT : TK τ) (a : Nat) (hF : FL τ a) (ha : 29 ≤ a ∧ a ≤ 34) (n R : Int) (cr cm : Nat → Int) (hn : 3 ≤ n ∧ n ≤ 9) (cl : CLH h n R cr cm) (T : TR) (ft : FT n h a T) (ok : t_ok n T) (s : Int) (hs : f_okc s) (j : Nat) (hj : j < 3) : S_ mX11_weavesSlipped (d + 4) 0 0 [.inr (some 0), .inr (some a), .inl s, .inl (j : Int)] τ h (Zi τ fun v h' => (t_run n R cr cm T (so_ j s) = none → v = 0) ∧ (∀ T', t_run n R cr cm T (so_ j s) = some T' → v = 1 ∧ FT n h' a T') ∧ FRl a h h') := by
  rcases (show j = 0 ∨ j = 1 ∨ j = 2 by omega) with rfl | rfl | rfl
  · exact x_weavesSlipped_0 d τ h hT a hF ha n R cr cm hn cl T ft ok s hs
  · exact x_weavesSlipped_1 d τ h hT a hF ha n R cr cm hn cl T ft ok s hs
  · exact x_weavesSlipped_2 d τ h hT a hF ha n R cr cm hn cl T ft ok s hs
