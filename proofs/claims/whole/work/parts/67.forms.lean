/-! forms: the word with places left out, pure -/
def rq (P : Nat → Bool) : Nat → Nat
  | 0 => 0
  | i + 1 => rq P i + if P i = true then 1 else 0
theorem rq_le {P : Nat → Bool} : ∀ i : Nat, rq P i ≤ i
  | 0 => Nat.le_refl _
  | i + 1 => by have := rq_le (P := P) i; show rq P i + (if P i = true then 1 else 0) ≤ i + 1; split <;> omega
theorem rq_mono {P : Nat → Bool} {i : Nat} : ∀ k : Nat, rq P i ≤ rq P (i + k)
  | 0 => Nat.le_refl _
  | k + 1 => by
    have := rq_mono (P := P) (i := i) k
    show rq P i ≤ rq P (i + k) + (if P (i + k) = true then 1 else 0)
    split <;> omega
theorem rq_lt {P : Nat → Bool} {i j : Nat} (h : i < j) (p : P i = true) : rq P i < rq P j := by
  have := rq_mono (P := P) (i := i + 1) (j - (i + 1))
  rw [show i + 1 + (j - (i + 1)) = j by omega] at this
  have e : rq P (i + 1) = rq P i + 1 := by show rq P i + (if P i = true then 1 else 0) = _; rw [if_pos p]
  omega
theorem rq_sur {P : Nat → Bool} {j : Nat} : ∀ L : Nat, j < rq P L → ∃ i : Nat, i < L ∧ P i = true ∧ rq P i = j
  | 0, h => absurd h (Nat.not_lt_zero _)
  | L + 1, h => by
    by_cases z : j < rq P L
    · obtain ⟨i, a, b, c⟩ := rq_sur L z
      exact ⟨i, by omega, b, c⟩
    · have e : rq P (L + 1) = rq P L + if P L = true then 1 else 0 := rfl
      by_cases y : P L = true
      · rw [if_pos y] at e; exact ⟨L, by omega, y, by omega⟩
      · rw [if_neg y] at e; omega
theorem rq_ord {P : Nat → Bool} {i j : Nat} (p : P i = true) (q : P j = true) : rq P i < rq P j ↔ i < j := by
  rcases Nat.lt_trichotomy i j with z | z | z
  · exact ⟨fun _ => z, fun _ => rq_lt z p⟩
  · subst z; omega
  · have := rq_lt z q; omega
theorem rq_c {P Q : Nat → Bool} {L : Nat} (e : ∀ i : Nat, i < L → P i = Q i) : ∀ i : Nat, i ≤ L → rq P i = rq Q i
  | 0, _ => rfl
  | i + 1, h => by
    show rq P i + (if P i = true then 1 else 0) = rq Q i + (if Q i = true then 1 else 0)
    rw [rq_c e i (by omega), e i (by omega)]
/-- one left out -/
theorem rq_out {P Q : Nat → Bool} {L i0 : Nat} (p0 : P i0 = true) (q0 : Q i0 = false) (e : ∀ i : Nat, i < L → i ≠ i0 → P i = Q i) : ∀ i : Nat, i ≤ L → rq P i = rq Q i + if i0 < i then 1 else 0
  | 0, _ => by rw [if_neg (Nat.not_lt_zero _)]; rfl
  | i + 1, h => by
    have ih := rq_out p0 q0 e i (by omega)
    show rq P i + (if P i = true then 1 else 0) = rq Q i + (if Q i = true then 1 else 0) + (if i0 < i + 1 then 1 else 0)
    by_cases z : i = i0
    · subst z
      rw [if_neg (Nat.lt_irrefl _)] at ih
      rw [if_pos p0, q0, if_neg (by decide), if_pos (by omega)]; omega
    · rw [ih, e i (by omega) z]
      by_cases y : i0 < i
      · rw [if_pos y, if_pos (show i0 < i + 1 by omega)]; omega
      · rw [if_neg y, if_neg (show ¬ i0 < i + 1 by omega)]; omega
/-- the row F from o on is the word W without what is left out -/
def CM (P : Nat → Bool) (W : Nat → Int) (L o m : Nat) (F : Nat → Int) : Prop := o + rq P L = m ∧ ∀ i : Nat, i < L → P i = true → F (o + rq P i) = W i
theorem CM.at {P : Nat → Bool} {W F : Nat → Int} {L o m j : Nat} (c : CM P W L o m F) (h1 : o ≤ j) (h2 : j < m) : ∃ i : Nat, i < L ∧ P i = true ∧ o + rq P i = j ∧ F j = W i := by
  obtain ⟨i, a, b, e⟩ := rq_sur (P := P) (j := j - o) L (by have := c.1; omega)
  exact ⟨i, a, b, by omega, by rw [← c.2 i a b, show o + rq P i = j by omega]⟩
theorem CM.lt {P : Nat → Bool} {W F : Nat → Int} {L o m i : Nat} (c : CM P W L o m F) (h : i < L) (p : P i = true) : o + rq P i < m := by
  have := rq_lt h p; have := c.1; omega
def AL (W : Nat → Int) (i : Nat) : Bool := decide (0 ≤ W i)
theorem AL_t {W : Nat → Int} {i : Nat} : AL W i = true ↔ 0 ≤ W i := by unfold AL; exact decide_eq_true_iff
/-- near -/
theorem far_n {n p q : Int} (hn : 3 ≤ n) (hp : 0 ≤ p ∧ p < n) (hq : 0 ≤ q ∧ q < n) : ¬ f_far n q p ↔ q = p ∨ q = x_bh n p ∨ q = x_ah n p := by
  unfold f_far x_bh x_ah
  split <;> split <;> split <;> omega
theorem far_s {n p q : Int} : f_far n p q ↔ f_far n q p := by
  unfold f_far
  split <;> split <;> omega
theorem w_last_p {n : Int} {F : Nat → Int} {x : Int} : ∀ m : Nat, (0 < w_last n F x m → ¬ f_far n ((F (w_last n F x m - 1)).tdiv 10) (x.tdiv 10)) ∧ ∀ j : Nat, w_last n F x m ≤ j → j < m → f_far n ((F j).tdiv 10) (x.tdiv 10)
  | 0 => ⟨fun h => absurd h (Nat.lt_irrefl _), fun j _ h => absurd h (Nat.not_lt_zero _)⟩
  | m + 1 => by
    have ih := w_last_p (n := n) (F := F) (x := x) m
    by_cases z : f_far n ((F m).tdiv 10) (x.tdiv 10)
    · have e : w_last n F x (m + 1) = w_last n F x m := if_pos z
      rw [e]
      refine ⟨ih.1, fun j h1 h2 => ?_⟩
      rcases Nat.lt_succ_iff_lt_or_eq.mp h2 with y | y
      · exact ih.2 j h1 y
      · subst y; exact z
    · have e : w_last n F x (m + 1) = m + 1 := if_neg z
      rw [e]
      exact ⟨fun _ => z, fun j h1 h2 => by omega⟩
theorem w_last_u {n : Int} {F : Nat → Int} {x : Int} {m k : Nat} (hk : k < m) (a : ¬ f_far n ((F k).tdiv 10) (x.tdiv 10)) (b : ∀ j : Nat, k < j → j < m → f_far n ((F j).tdiv 10) (x.tdiv 10)) : w_last n F x m = k + 1 := by
  have p := w_last_p (n := n) (F := F) (x := x) m
  have le := w_last_le n F x m
  by_cases z : w_last n F x m ≤ k
  · exact absurd (p.2 k z hk) a
  · by_cases y : w_last n F x m = k + 1
    · exact y
    · exact absurd (b _ (by omega) (by omega)) (p.1 (by omega))
/-- the word as it comes -/
def WI (n : Int) (L : Nat) (W Lk E : Nat → Int) (m : Nat) (F : Nat → Int) : Prop :=
  CM (AL W) W L 0 m F ∧ (∀ j : Nat, j < m → w_cd n (F j)) ∧
  (∀ p : Nat, (p : Int) < n → -1 ≤ E p ∧ E p < L ∧ (0 ≤ E p → 0 ≤ W (E p).toNat ∧ (W (E p).toNat).tdiv 10 = p) ∧ ∀ i : Nat, i < L → 0 ≤ W i → (W i).tdiv 10 = p → (i : Int) ≤ E p) ∧
  (∀ i : Nat, i < L → 0 ≤ W i → -1 ≤ Lk i ∧ Lk i < i ∧ (0 ≤ Lk i → 0 ≤ W (Lk i).toNat ∧ (W (Lk i).toNat).tdiv 10 = (W i).tdiv 10) ∧ ∀ j : Nat, j < i → 0 ≤ W j → (W j).tdiv 10 = (W i).tdiv 10 → (j : Int) ≤ Lk i) ∧
  (∀ i : Nat, i < L → -1 ≤ W i ∧ W i ≤ 99)
theorem WI.cm {n : Int} {L : Nat} {W Lk E : Nat → Int} {m : Nat} {F : Nat → Int} (w : WI n L W Lk E m F) : CM (AL W) W L 0 m F := w.1
theorem WI.ok {n : Int} {L : Nat} {W Lk E : Nat → Int} {m : Nat} {F : Nat → Int} (w : WI n L W Lk E m F) : ∀ j : Nat, j < m → w_cd n (F j) := w.2.1
theorem WI.ed {n : Int} {L : Nat} {W Lk E : Nat → Int} {m : Nat} {F : Nat → Int} (w : WI n L W Lk E m F) : ∀ p : Nat, (p : Int) < n → -1 ≤ E p ∧ E p < L ∧ (0 ≤ E p → 0 ≤ W (E p).toNat ∧ (W (E p).toNat).tdiv 10 = p) ∧ ∀ i : Nat, i < L → 0 ≤ W i → (W i).tdiv 10 = p → (i : Int) ≤ E p := w.2.2.1
theorem WI.lk {n : Int} {L : Nat} {W Lk E : Nat → Int} {m : Nat} {F : Nat → Int} (w : WI n L W Lk E m F) : ∀ i : Nat, i < L → 0 ≤ W i → -1 ≤ Lk i ∧ Lk i < i ∧ (0 ≤ Lk i → 0 ≤ W (Lk i).toNat ∧ (W (Lk i).toNat).tdiv 10 = (W i).tdiv 10) ∧ ∀ j : Nat, j < i → 0 ≤ W j → (W j).tdiv 10 = (W i).tdiv 10 → (j : Int) ≤ Lk i := w.2.2.2.1
theorem WI.lo {n : Int} {L : Nat} {W Lk E : Nat → Int} {m : Nat} {F : Nat → Int} (w : WI n L W Lk E m F) : ∀ i : Nat, i < L → -1 ≤ W i ∧ W i ≤ 99 := w.2.2.2.2
theorem WI.cd {n : Int} {L : Nat} {W Lk E : Nat → Int} {m : Nat} {F : Nat → Int} (w : WI n L W Lk E m F) {i : Nat} (h : i < L) (a : 0 ≤ W i) : w_cd n (W i) := by
  have := w.ok _ (w.cm.lt h (AL_t.mpr a))
  rwa [w.cm.2 i h (AL_t.mpr a)] at this
/-- does it meet? -/
theorem WI.hit {n : Int} {L : Nat} {W Lk E : Nat → Int} {m : Nat} {F : Nat → Int} (w : WI n L W Lk E m F) (hn : 3 ≤ n ∧ n ≤ 9) {p how : Int} (hp : 0 ≤ p ∧ p < n) (hh : how = 0 ∨ how = 1) : w_hit n m F (10 * p + how) ↔ 0 ≤ E p.toNat ∧ (W (E p.toNat).toNat).tmod 10 ≠ how ∧ E (x_bh n p).toNat < E p.toNat ∧ E (x_ah n p).toNat < E p.toNat := by
  have hx : b_xor (10 * p + how) 1 = 10 * p + (1 - how) := by
    rcases (show p = 0 ∨ p = 1 ∨ p = 2 ∨ p = 3 ∨ p = 4 ∨ p = 5 ∨ p = 6 ∨ p = 7 ∨ p = 8 by omega) with rfl | rfl | rfl | rfl | rfl | rfl | rfl | rfl | rfl <;> rcases hh with rfl | rfl <;> decide
  have xd : (10 * p + how).tdiv 10 = p := by rw [Int.tdiv_eq_ediv_of_nonneg (by omega)]; omega
  have eP : ((p.toNat : Nat) : Int) = p := by omega
  have bh := x_bh_r hp
  have ah := x_ah_r hp
  have ep := w.ed p.toNat (by omega)
  have eb := w.ed (x_bh n p).toNat (by omega)
  have ea := w.ed (x_ah n p).toNat (by omega)
  have wl := w_last_p (n := n) (F := F) (x := 10 * p + how) m
  have le := w_last_le n F (10 * p + how) m
  rw [eP] at ep
  rw [show (((x_bh n p).toNat : Nat) : Int) = x_bh n p by omega] at eb
  rw [show (((x_ah n p).toNat : Nat) : Int) = x_ah n p by omega] at ea
  rw [xd] at wl
  have pl : ∀ {i : Nat}, i < L → 0 ≤ W i → 0 ≤ (W i).tdiv 10 ∧ (W i).tdiv 10 < n := fun h a => by
    have := w_cd_r (w.cd h a); omega
  have near : ∀ {i : Nat}, i < L → 0 ≤ W i → (¬ f_far n ((W i).tdiv 10) p ↔ (W i).tdiv 10 = p ∨ (W i).tdiv 10 = x_bh n p ∨ (W i).tdiv 10 = x_ah n p) := fun h a => far_n hn.1 hp (pl h a)
  have al : ∀ {i : Nat}, 0 ≤ W i → AL W i = true := fun h => AL_t.mpr h
  have fw : ∀ {i : Nat}, i < L → 0 ≤ W i → F (rq (AL W) i) = W i := fun h a => by have := w.cm.2 _ h (al a); rwa [Nat.zero_add] at this
  have mL : ∀ {i : Nat}, i < L → 0 ≤ W i → rq (AL W) i < m := fun h a => by have := w.cm.lt h (al a); omega
  constructor
  · rintro ⟨h1, h2⟩
    rw [hx] at h2
    obtain ⟨i, i1, i2, i3, i4⟩ := w.cm.at (j := w_last n F (10 * p + how) m - 1) (Nat.zero_le _) (by omega)
    have a : 0 ≤ W i := AL_t.mp i2
    rw [i4] at h2
    have pi : (W i).tdiv 10 = p := by rw [h2, Int.tdiv_eq_ediv_of_nonneg (by omega)]; omega
    have le1 := ep.2.2.2 i i1 a pi
    obtain ⟨l1, l2⟩ := ep.2.2.1 (by omega)
    have no : ∀ {k : Nat}, k < L → 0 ≤ W k → i < k → ¬ ((W k).tdiv 10 = p ∨ (W k).tdiv 10 = x_bh n p ∨ (W k).tdiv 10 = x_ah n p) := fun {k} k1 k2 k3 q => by
      have q2 := (near k1 k2).mpr q
      refine q2 ?_
      have := wl.2 (rq (AL W) k) (by have := (rq_ord (al a) (al k2)).mpr k3; omega) (mL k1 k2)
      rwa [fw k1 k2] at this
    have ei : (E p.toNat).toNat = i := Classical.byContradiction fun z => no (k := (E p.toNat).toNat) (by omega) l1 (by omega) (Or.inl l2)
    have oth : ∀ {e : Int}, e < L → (0 ≤ e → 0 ≤ W e.toNat ∧ ((W e.toNat).tdiv 10 = x_bh n p ∨ (W e.toNat).tdiv 10 = x_ah n p)) → e < E p.toNat := fun {e} e1 e2 => by
      refine Classical.byContradiction fun z => ?_
      obtain ⟨e3, e4⟩ := e2 (by omega)
      have ne : e ≠ E p.toNat := fun q => by
        rw [q, l2] at e4
        unfold x_bh x_ah at e4
        split at e4 <;> split at e4 <;> omega
      exact no (k := e.toNat) (by omega) e3 (by omega) (Or.inr e4)
    refine ⟨by omega, ?_, oth eb.2.1 (fun q => ⟨(eb.2.2.1 q).1, Or.inl (eb.2.2.1 q).2⟩), oth ea.2.1 (fun q => ⟨(ea.2.2.1 q).1, Or.inr (ea.2.2.1 q).2⟩)⟩
    rw [ei, h2, Int.tmod_eq_emod_of_nonneg (by omega)]
    omega
  · rintro ⟨h1, h2, h3, h4⟩
    obtain ⟨l1, l2⟩ := ep.2.2.1 h1
    have lL : (E p.toNat).toNat < L := by omega
    have u := w_last_u (n := n) (F := F) (x := 10 * p + how) (m := m) (k := rq (AL W) (E p.toNat).toNat) (mL lL l1) (by rw [fw lL l1, xd]; exact (near lL l1).mpr (Or.inl l2)) (fun j j1 j2 => by
      obtain ⟨i, i1, i2, i3, i4⟩ := w.cm.at (j := j) (Nat.zero_le _) j2
      have a : 0 ≤ W i := AL_t.mp i2
      have lt : (E p.toNat).toNat < i := (rq_ord (al l1) i2).mp (by omega)
      rw [i4, xd]
      refine Classical.byContradiction fun z => ?_
      rcases (near i1 a).mp z with q | q | q
      · have := ep.2.2.2 i i1 a q; omega
      · have := eb.2.2.2 i i1 a q; omega
      · have := ea.2.2.2 i i1 a q; omega)
    refine ⟨by omega, ?_⟩
    rw [u, Nat.add_sub_cancel, fw lL l1, hx]
    have cd := w.cd lL l1
    have c4 := cd.2.2.2
    have := Int.mul_tdiv_add_tmod (W (E p.toNat).toNat) 10
    rw [l2] at this
    omega
theorem WI.last {n : Int} {L : Nat} {W Lk E : Nat → Int} {m : Nat} {F : Nat → Int} (w : WI n L W Lk E m F) (hn : 3 ≤ n ∧ n ≤ 9) {p how : Int} (hp : 0 ≤ p ∧ p < n) (hh : how = 0 ∨ how = 1) (h : w_hit n m F (10 * p + how)) : w_last n F (10 * p + how) m - 1 = rq (AL W) (E p.toNat).toNat := by
  have hc := (w.hit hn hp hh).mp h
  have eP : ((p.toNat : Nat) : Int) = p := by omega
  have ep := w.ed p.toNat (by omega)
  rw [eP] at ep
  have xd : (10 * p + how).tdiv 10 = p := by rw [Int.tdiv_eq_ediv_of_nonneg (by omega)]; omega
  have wl := w_last_p (n := n) (F := F) (x := 10 * p + how) m
  have le := w_last_le n F (10 * p + how) m
  obtain ⟨l1, l2⟩ := ep.2.2.1 hc.1
  have al : ∀ {i : Nat}, 0 ≤ W i → AL W i = true := fun h => AL_t.mpr h
  have lL : (E p.toNat).toNat < L := by omega
  have hx : b_xor (10 * p + how) 1 = 10 * p + (1 - how) := by
    rcases (show p = 0 ∨ p = 1 ∨ p = 2 ∨ p = 3 ∨ p = 4 ∨ p = 5 ∨ p = 6 ∨ p = 7 ∨ p = 8 by omega) with rfl | rfl | rfl | rfl | rfl | rfl | rfl | rfl | rfl <;> rcases hh with rfl | rfl <;> decide
  have h2 := h.2
  rw [hx] at h2
  obtain ⟨i, i1, i2, i3, i4⟩ := w.cm.at (j := w_last n F (10 * p + how) m - 1) (Nat.zero_le _) (by have := h.1; omega)
  have a : 0 ≤ W i := AL_t.mp i2
  rw [i4] at h2
  have pi : (W i).tdiv 10 = p := by rw [h2, Int.tdiv_eq_ediv_of_nonneg (by omega)]; omega
  have le1 := ep.2.2.2 i i1 a pi
  have ei : (E p.toNat).toNat = i := Classical.byContradiction fun z => by
    have lt := (rq_ord i2 (al l1)).mpr (show i < (E p.toNat).toNat by omega)
    have := wl.2 (rq (AL W) (E p.toNat).toNat) (by omega) (by have := w.cm.lt lL (al l1); omega)
    have fw := w.cm.2 _ lL (al l1)
    rw [Nat.zero_add] at fw
    rw [fw, xd] at this
    exact (far_n hn.1 hp (show 0 ≤ (W (E p.toNat).toNat).tdiv 10 ∧ (W (E p.toNat).toNat).tdiv 10 < n by omega)).mpr (Or.inl l2) this
  rw [ei]; omega
