/-! a search for the first least round -/
theorem rk_c {n : Nat} {o o' : Nat → Int} (e : ∀ q : Nat, q < n → o q = o' q) : rk_ n o = rk_ n o' := f_rk_c e n (Nat.le_refl _)
theorem ab_tri (a b c : Int) : f_ab (a - c) ≤ f_ab (a - b) + f_ab (b - c) := by
  unfold f_ab; split <;> split <;> split <;> omega
theorem ab_sy (a b : Int) : f_ab (a - b) = f_ab (b - a) := by
  unfold f_ab; split <;> split <;> omega
theorem ab_r {a b : Int} (x : 0 ≤ a ∧ a ≤ 20) (y : 0 ≤ b ∧ b ≤ 20) : 0 ≤ f_ab (a - b) ∧ f_ab (a - b) ≤ 20 := by
  unfold f_ab; split <;> omega
theorem sm_s {n : Nat} {R o : Nat → Int} {p : Nat} (h : p + 1 < n) : f_sm n R o (p + 1) = f_sm n R o p + f_ab (R (o p).toNat - R (o (p + 1)).toNat) := by
  show f_sm n R o p + f_ab (R (o p).toNat - R (o (f_ny n p)).toNat) = _
  rw [show f_ny n p = p + 1 from if_neg (by omega)]
theorem sm_e {n : Nat} {R o : Nat → Int} {p : Nat} (h : p + 1 = n) : f_sm n R o (p + 1) = f_sm n R o p + f_ab (R (o p).toNat - R (o 0).toNat) := by
  show f_sm n R o p + f_ab (R (o p).toNat - R (o (f_ny n p)).toNat) = _
  rw [show f_ny n p = 0 from if_pos h]
theorem sm_tri {n : Nat} {R o : Nat → Int} : ∀ k p : Nat, p + k + 1 = n → f_sm n R o p + f_ab (R (o p).toNat - R (o 0).toNat) ≤ f_sm n R o n
  | 0, p, h => by
    have h1 : p + 1 = n := h
    have e := sm_e (R := R) (o := o) h1
    rw [h1] at e
    exact Int.le_of_eq e.symm
  | k + 1, p, h => by
    have ih := sm_tri (n := n) (R := R) (o := o) k (p + 1) (by omega)
    have e := sm_s (R := R) (o := o) (show p + 1 < n by omega)
    have t := ab_tri (R (o p).toNat) (R (o (p + 1)).toNat) (R (o 0).toNat)
    rw [e] at ih
    exact Int.le_trans (by rw [Int.add_assoc]; exact Int.add_le_add_left t _) ih
theorem sm_pre {n : Nat} {R o o' : Nat → Int} : ∀ p : Nat, p < n → (∀ q : Nat, q ≤ p → o q = o' q) → f_sm n R o p = f_sm n R o' p
  | 0, _, _ => rfl
  | p + 1, h, e => by
    rw [sm_s h, sm_s h, sm_pre p (by omega) (fun q hq => e q (by omega)), e p (by omega), e (p + 1) (by omega)]
/-- what a search over E leaves: the least so far, and the first that has it -/
def FD (S : (Nat → Int) → Int) (n : Nat) (E : (Nat → Int) → Prop) (L L' : Int) (b b' : Nat → Int) : Prop :=
  (∀ o : Nat → Int, E o → L' ≤ S o) ∧ ((L' = L ∧ b' = b) ∨ (L' < L ∧ E b' ∧ S b' = L' ∧ ∀ o : Nat → Int, E o → rk_ n o < rk_ n b' → L' < S o))
theorem FD_cut {S : (Nat → Int) → Int} {n : Nat} {E : (Nat → Int) → Prop} {L : Int} {b : Nat → Int} (x : ∀ o : Nat → Int, E o → L ≤ S o) : FD S n E L L b b := ⟨x, Or.inl ⟨rfl, rfl⟩⟩
theorem FD_c {S : (Nat → Int) → Int} {n : Nat} {E E' : (Nat → Int) → Prop} {L L' : Int} {b b' : Nat → Int} (e : ∀ o : Nat → Int, E o ↔ E' o) (x : FD S n E L L' b b') : FD S n E' L L' b b' := by
  have : E = E' := funext fun o => propext (e o)
  rw [← this]; exact x
theorem FD_le {S : (Nat → Int) → Int} {n : Nat} {E : (Nat → Int) → Prop} {L L' : Int} {b b' : Nat → Int} (x : FD S n E L L' b b') : L' ≤ L := by
  rcases x.2 with y | y <;> omega
theorem FD_seq {S : (Nat → Int) → Int} {n : Nat} {E1 E2 : (Nat → Int) → Prop} {L L1 L2 : Int} {b b1 b2 : Nat → Int} (x : FD S n E1 L L1 b b1) (y : FD S n E2 L1 L2 b1 b2) (c : ∀ o1 o2 : Nat → Int, E1 o1 → E2 o2 → rk_ n o1 < rk_ n o2) : FD S n (fun o => E1 o ∨ E2 o) L L2 b b2 := by
  have l1 := FD_le x
  have l2 := FD_le y
  refine ⟨fun o q => ?_, ?_⟩
  · rcases q with q | q
    · have := x.1 o q; omega
    · exact y.1 o q
  · rcases y.2 with ⟨rfl, rfl⟩ | ⟨y1, y2, y3, y4⟩
    · rcases x.2 with ⟨rfl, rfl⟩ | ⟨x1, x2, x3, x4⟩
      · exact Or.inl ⟨rfl, rfl⟩
      · refine Or.inr ⟨x1, Or.inl x2, x3, fun o q k => ?_⟩
        rcases q with q | q
        · exact x4 o q k
        · have := c b2 o x2 q; omega
    · refine Or.inr ⟨by omega, Or.inr y2, y3, fun o q k => ?_⟩
      rcases q with q | q
      · have := x.1 o q; omega
      · exact y4 o q k
def EX (n : Nat) (r : Nat → Int) (p : Nat) (o : Nat → Int) : Prop := isP n o ∧ ∀ q : Nat, q < p → o q = r q
theorem EX_step {n : Nat} {r : Nat → Int} {p i : Nat} {S : (Nat → Int) → Int} {L L1 L2 : Int} {b b1 b2 : Nat → Int} (hp : p < n) (x : FD S n (fun o => EX n r p o ∧ o p < (i : Int)) L L1 b b1) (y : FD S n (fun o => EX n r p o ∧ o p = (i : Int)) L1 L2 b1 b2) : FD S n (fun o => EX n r p o ∧ o p < ((i + 1 : Nat) : Int)) L L2 b b2 := by
  refine FD_c (fun o => ⟨fun q => ?_, fun q => ?_⟩) (FD_seq x y (fun o1 o2 q1 q2 => rk_lt q1.1.1 q2.1.1 hp (fun q hq => (q1.1.2 q hq).trans (q2.1.2 q hq).symm) (by omega)))
  · rcases q with q | q
    · exact ⟨q.1, by omega⟩
    · exact ⟨q.1, by omega⟩
  · by_cases z : o p < (i : Int)
    · exact Or.inl ⟨q.1, z⟩
    · exact Or.inr ⟨q.1, by omega⟩
/-- the bit of a number -/
def tb_ (W : Int) (k : Nat) : Int := b_and (b_ushr W (k : Int)) 1
def tb_or (W : Int) (i : Nat) : Int := b_or W (b_shl 1 (i : Int))
theorem tb_all : ∀ w : Nat, w < 128 → ∀ i : Nat, i < 7 → (0 ≤ tb_or (w : Int) i ∧ tb_or (w : Int) i < 128) ∧ ∀ k : Nat, k < 7 → tb_ (tb_or (w : Int) i) k = if k = i then 1 else tb_ (w : Int) k := by decide +kernel
theorem tb_01 : ∀ w : Nat, w < 128 → ∀ k : Nat, k < 7 → (tb_ (w : Int) k = 0 ∨ tb_ (w : Int) k = 1) := by decide +kernel
/-- a row of p guests, and who is seated -/
def SP (h : HT) (n p : Nat) (W : Int) : Prop := h 65 0 = 0 ∧ (∀ q : Nat, q < p → 0 ≤ h 65 q ∧ h 65 q < n) ∧ (∀ q r : Nat, q < p → r < p → h 65 q = h 65 r → q = r) ∧ (0 ≤ W ∧ W < 128) ∧ ∀ k : Nat, k < n → (tb_ W k = 1 ↔ ∃ q : Nat, q < p ∧ h 65 q = (k : Int))
theorem SP_01 {h : HT} {n p : Nat} {W : Int} (x : SP h n p W) (hn : n ≤ 7) {k : Nat} (hk : k < n) : tb_ W k = 0 ∨ tb_ W k = 1 := by
  obtain ⟨w, rfl⟩ : ∃ w : Nat, W = (w : Int) := ⟨W.toNat, by have := x.2.2.2.1; omega⟩
  exact tb_01 w (by have := x.2.2.2.1; omega) k (by omega)
theorem SP_s {h g : HT} {n p i : Nat} {W : Int} (x : SP h n p W) (hn : n ≤ 7) (hp : 1 ≤ p ∧ p < n) (hi : i < n) (h0 : tb_ W i = 0) (g1 : g 65 p = (i : Int)) (g2 : ∀ q : Nat, q < p → g 65 q = h 65 q) : SP g n (p + 1) (tb_or W i) := by
  obtain ⟨a, b, c, d, e⟩ := x
  have nq : ∀ q : Nat, q < p → h 65 q ≠ (i : Int) := fun q hq e1 => by
    have := (e i hi).2 ⟨q, hq, e1⟩; omega
  have t : (0 ≤ tb_or W i ∧ tb_or W i < 128) ∧ ∀ k : Nat, k < 7 → tb_ (tb_or W i) k = if k = i then 1 else tb_ W k := by
    obtain ⟨w, rfl⟩ : ∃ w : Nat, W = (w : Int) := ⟨W.toNat, by omega⟩
    exact tb_all w (by omega) i (by omega)
  refine ⟨by rw [g2 0 (by omega)]; exact a, fun q hq => ?_, fun q r hq hr e1 => ?_, t.1, fun k hk => ?_⟩
  · by_cases z : q = p
    · rw [z, g1]; omega
    · rw [g2 q (by omega)]; exact b q (by omega)
  · by_cases z : q = p
    · by_cases y : r = p
      · omega
      · rw [z, g1, g2 r (by omega)] at e1
        exact absurd e1.symm (nq r (by omega))
    · by_cases y : r = p
      · rw [y, g1, g2 q (by omega)] at e1
        exact absurd e1 (nq q (by omega))
      · rw [g2 r (by omega), g2 q (by omega)] at e1
        exact c q r (by omega) (by omega) e1
  · rw [t.2 k (by omega)]
    by_cases z : k = i
    · rw [if_pos z, z]; exact ⟨fun _ => ⟨p, by omega, g1⟩, fun _ => rfl⟩
    · rw [if_neg z]
      refine ⟨fun q => ?_, fun ⟨q, hq, e1⟩ => ?_⟩
      · obtain ⟨q, hq, e1⟩ := (e k hk).1 q
        exact ⟨q, by omega, by rw [g2 q hq]; exact e1⟩
      · by_cases y : q = p
        · rw [y, g1] at e1; omega
        · rw [g2 q (by omega)] at e1
          exact (e k hk).2 ⟨q, by omega, e1⟩
def SQ (h : HT) (n : Nat) (R : Nat → Int) (p : Nat) (sm W : Int) : Prop := h 60 0 = n ∧ (∀ k : Nat, k < n → h 62 k = R k) ∧ SP h n p W ∧ sm = f_sm n R (h 65) (p - 1) ∧ (0 ≤ h 60 7 ∧ h 60 7 ≤ 1000000) ∧ (p = n → f_sm n R (h 65) n < h 60 7)
theorem SQ_s {h g : HT} {n p i : Nat} {R : Nat → Int} {sm W v1 v2 : Int} (x : SQ h n R p sm W) (hn : n ≤ 7) (hp : 1 ≤ p ∧ p < n) (hi : 1 ≤ i ∧ i < n) (fr : ∀ c j : Nat, c ≠ 64 → c ≠ 65 → c ≠ 66 → (c = 60 → j ≠ 7) → g c j = h c j) (r5 : ∀ q : Nat, q < p → g 65 q = h 65 q) (lr : 0 ≤ g 60 7 ∧ g 60 7 ≤ 1000000) (h0 : tb_ W i = 0) (e1 : v1 = f_ab (R (h 65 (p - 1)).toNat - R i)) (e2 : v2 = f_ab (R i - R 0)) (l : sm + v1 + v2 < g 60 7) : SQ (hs_ g 65 p (i : Int)) n R (p + 1) (sm + v1) (tb_or W i) := by
  obtain ⟨a, b, c, d, _, _⟩ := x
  have k5 : ∀ q : Nat, q < p → hs_ g 65 p (i : Int) 65 q = h 65 q := fun q hq => by
    rw [hs_ni (by omega)]; exact r5 q hq
  have k8 : hs_ g 65 p (i : Int) 60 7 = g 60 7 := hs_na (by decide)
  have es : f_sm n R (hs_ g 65 p (i : Int) 65) p = sm + v1 := by
    obtain ⟨m, rfl⟩ : ∃ m : Nat, p = m + 1 := ⟨p - 1, by omega⟩
    rw [sm_s hp.2, hs_eq, k5 m (by omega), e1, d]
    rw [sm_pre (o' := h 65) m (by omega) (fun q hq => k5 q (by omega))]
    rfl
  refine ⟨?_, fun k hk => ?_, SP_s c hn hp hi.2 h0 hs_eq k5, ?_, by rw [k8]; exact lr, fun e => ?_⟩
  · rw [hs_na (by decide), fr 60 0 (by decide) (by decide) (by decide) (by decide)]; exact a
  · rw [hs_na (by decide), fr 62 k (by decide) (by decide) (by decide) (by omega)]; exact b k hk
  · rw [Nat.add_sub_cancel]; exact es.symm
  · rw [k8]
    have z := sm_e (R := R) (o := hs_ g 65 p (i : Int) 65) e
    rw [e, es, hs_eq, k5 0 (by omega), c.1] at z
    rw [z]
    rw [e2] at l
    exact l
theorem SQ_cut {h : HT} {n p i : Nat} {R : Nat → Int} {sm W v1 v2 : Int} (x : SQ h n R p sm W) (hp : 1 ≤ p ∧ p < n) (e1 : v1 = f_ab (R (h 65 (p - 1)).toNat - R i)) (e2 : v2 = f_ab (R i - R 0)) {o : Nat → Int} (q : EX n (h 65) p o ∧ o p = (i : Int)) : sm + v1 + v2 ≤ f_sm n R o n := by
  have t := sm_tri (n := n) (R := R) (o := o) (n - p - 1) p (by omega)
  obtain ⟨m, rfl⟩ : ∃ m : Nat, p = m + 1 := ⟨p - 1, by omega⟩
  rw [sm_s hp.2, q.2, q.1.2 m (by omega), q.1.2 0 (by omega), x.2.2.1.1, sm_pre (o' := h 65) m (by omega) (fun k hk => q.1.2 k (by omega))] at t
  rw [e1, e2, x.2.2.2.1]
  exact t
theorem SQ_no {h : HT} {n p i : Nat} {R : Nat → Int} {sm W : Int} (x : SQ h n R p sm W) (hn : n ≤ 7) (hp : 1 ≤ p ∧ p < n) (hi : i < n) (h1 : tb_ W i ≠ 0) {o : Nat → Int} (q : EX n (h 65) p o ∧ o p = (i : Int)) : False := by
  have sp := x.2.2.1
  have := SP_01 sp hn hi
  obtain ⟨r, hr, e⟩ := (sp.2.2.2.2 i hi).1 (by omega)
  have e2 : o r = o p := by rw [q.1.2 r hr, e, q.2]
  have := q.1.1.2 r p (by omega) hp.2 e2
  omega
theorem SQ_end {h : HT} {n : Nat} {R : Nat → Int} {sm W L : Int} {b : Nat → Int} (x : SQ h n R n sm W) (eL : L = f_sm n R (h 65) n) (eb : ∀ q : Nat, q < n → b q = h 65 q) : FD (fun o => f_sm n R o n) n (EX n (h 65) n) (h 60 7) L (h 66) b := by
  have sp := x.2.2.1
  have P : isP n (h 65) := ⟨sp.2.1, sp.2.2.1⟩
  have Pb : isP n b := ⟨fun p hp => by rw [eb p hp]; exact P.1 p hp, fun p q hp hq e => P.2 p q hp hq (by rw [← eb p hp, ← eb q hq]; exact e)⟩
  refine ⟨fun o q => ?_, Or.inr ⟨?_, ⟨Pb, eb⟩, ?_, fun o q k => ?_⟩⟩
  · show L ≤ f_sm n R o n
    rw [eL, f_sm_c q.2 n (Nat.le_refl _)]
    exact Int.le_refl _
  · rw [eL]; exact x.2.2.2.2.2 rfl
  · show f_sm n R b n = L
    rw [eL, f_sm_c eb n (Nat.le_refl _)]
  · exact absurd k (by rw [rk_c (fun p hp => (q.2 p hp).trans (eb p hp).symm)]; exact Nat.lt_irrefl _)
theorem isP_one {n : Nat} {o : Nat → Int} (x : isP n o) (hn : 1 ≤ n) : isP n (fun j => o (f_ny n j)) := by
  refine ⟨fun p hp => x.1 _ ?_, fun p q hp hq e => ?_⟩
  · unfold f_ny; split <;> omega
  · have := x.2 (f_ny n p) (f_ny n q) (by unfold f_ny; split <;> omega) (by unfold f_ny; split <;> omega) e
    unfold f_ny at this
    split at this <;> split at this <;> omega
theorem sm_one {n : Nat} {R o : Nat → Int} (hn : 3 ≤ n ∧ n ≤ 7) : f_sm n R (fun j => o (f_ny n j)) n = f_sm n R o n := by
  have : n = 3 ∨ n = 4 ∨ n = 5 ∨ n = 6 ∨ n = 7 := by omega
  rcases this with rfl | rfl | rfl | rfl | rfl <;> simp only [f_sm, f_ny] <;> simp only [Nat.reduceAdd, Nat.reduceEqDiff, if_true, if_false] <;> generalize R (o 0).toNat = a <;> generalize R (o 1).toNat = b <;> generalize R (o 2).toNat = c <;> omega
theorem sm_turn {n : Nat} {R : Nat → Int} (hn : 3 ≤ n ∧ n ≤ 7) : ∀ (k : Nat) (o : Nat → Int), isP n o → k < n → o k = 0 → ∃ o' : Nat → Int, isP n o' ∧ o' 0 = 0 ∧ f_sm n R o' n = f_sm n R o n
  | 0, o, x, _, e => ⟨o, x, e, rfl⟩
  | k + 1, o, x, hk, e => by
    obtain ⟨o', a, b, c⟩ := sm_turn hn k (fun j => o (f_ny n j)) (isP_one x (by omega)) (by omega) (by show o (f_ny n k) = 0; rw [show f_ny n k = k + 1 from if_neg (by omega)]; exact e)
    exact ⟨o', a, b, c.trans (sm_one hn)⟩
theorem MINP_0s {n : Nat} {R : Nat → Int} (hn : 3 ≤ n ∧ n ≤ 7) {b : Nat → Int} (P : isP n b) (b0 : b 0 = 0) (l : ∀ o : Nat → Int, isP n o → o 0 = 0 → f_sm n R b n ≤ f_sm n R o n ∧ (rk_ n o < rk_ n b → f_sm n R b n < f_sm n R o n)) : MINP n (fun o => f_sm n R o n) (f_P n n) b := by
  refine ⟨P, rk_N b, fun o x _ => ⟨?_, fun k => ?_⟩⟩
  · obtain ⟨q, hq, e⟩ := isP_onto x 0 (by omega)
    obtain ⟨o', a, c, d⟩ := sm_turn (R := R) hn q o x hq e
    have := (l o' a c).1
    rw [d] at this
    exact this
  · have z : o 0 = 0 := by
      by_cases z : o 0 = 0
      · exact z
      · have := x.1 0 (by omega)
        have := rk_lt P x (p := 0) (by omega) (fun q hq => absurd hq (Nat.not_lt_zero _)) (by omega)
        omega
    exact (l o x z).2 k
theorem MINP_u {n v : Nat} {S : (Nat → Int) → Int} {o o' : Nat → Int} (x : MINP n S v o) (y : MINP n S v o') : ∀ q : Nat, q < n → o q = o' q := by
  have a := x.2.2 o' y.1 y.2.1
  have b := y.2.2 o x.1 x.2.1
  refine rk_inj x.1 y.1 ?_ n (Nat.le_refl _)
  by_cases p : rk_ n o' < rk_ n o
  · have := a.2 p; omega
  · by_cases q : rk_ n o < rk_ n o'
    · have := b.2 q; omega
    · omega

