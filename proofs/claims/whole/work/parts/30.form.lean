/-! forms, pure -/
/-- two places that are far -/
abbrev f_far (n p q : Int) : Prop := 1 < (if p - q < 0 then -(p - q) else p - q) ∧ (if p - q < 0 then -(p - q) else p - q) < n - 1
/-- one behind the last that is not far from x; 0 if there is none -/
def w_last (n : Int) (F : Nat → Int) (x : Int) : Nat → Nat
  | 0 => 0
  | k + 1 => if f_far n ((F k).tdiv 10) (x.tdiv 10) then w_last n F x k else k + 1
theorem w_last_le (n : Int) (F : Nat → Int) (x : Int) : ∀ k : Nat, w_last n F x k ≤ k
  | 0 => Nat.le_refl _
  | k + 1 => by
    have := w_last_le n F x k
    unfold w_last
    split <;> omega
abbrev w_hit (n : Int) (m : Nat) (F : Nat → Int) (x : Int) : Prop := 0 < w_last n F x m ∧ F (w_last n F x m - 1) = b_xor x 1
def w_m (n : Int) (m : Nat) (F : Nat → Int) (x : Int) : Nat := if w_hit n m F x then m - 1 else m + 1
def w_F (n : Int) (m : Nat) (F : Nat → Int) (x : Int) (j : Nat) : Int := if w_hit n m F x then (if j < w_last n F x m - 1 then F j else F (j + 1)) else if j = m then x else F j
abbrev WT : Type := Int × Nat × (Nat → Int)
def w_x (n t s : Int) : Int := 10 * ((s.tdiv 10 - t) % n) + s.tmod 10
def w_st (n : Int) (W : WT) (s : Int) : Option WT := if 100 ≤ s then some (W.1 + (if s = 100 then 1 else -1), W.2.1, W.2.2) else if n ≤ s.tdiv 10 then none else some (W.1, w_m n W.2.1 W.2.2 (w_x n W.1 s), w_F n W.2.1 W.2.2 (w_x n W.1 s))
def w_run (n : Int) (S : Nat → Int) : Nat → Option WT
  | 0 => some (0, 0, fun _ => 0)
  | k + 1 => (w_run n S k).bind fun W => w_st n W (S k)
/-- the free one with the least number, among i and the t behind it -/
def w_bst (n : Int) (F : Nat → Int) (i : Nat) : Nat → Nat
  | 0 => i
  | t + 1 => if F (i + 1 + t) < F (w_bst n F i t) ∧ ∀ q : Nat, q < i + 1 + t → (i ≤ q → f_far n ((F q).tdiv 10) ((F (i + 1 + t)).tdiv 10)) then i + 1 + t else w_bst n F i t
theorem w_bst_r (n : Int) (F : Nat → Int) (i : Nat) : ∀ t : Nat, i ≤ w_bst n F i t ∧ w_bst n F i t ≤ i + t
  | 0 => ⟨Nat.le_refl _, Nat.le_refl _⟩
  | t + 1 => by
    have := w_bst_r n F i t
    unfold w_bst
    split <;> omega
def w_rot (F : Nat → Int) (i b j : Nat) : Int := if j = i then F b else if i < j ∧ j ≤ b then F (j - 1) else F j
def w_srt (n : Int) (m : Nat) (F : Nat → Int) : Nat → (Nat → Int)
  | 0 => F
  | i + 1 => w_rot (w_srt n m F i) i (w_bst n (w_srt n m F i) i (m - (i + 1)))
/-- a pass at a place of the ring -/
def w_cd (n x : Int) : Prop := 0 ≤ x ∧ x ≤ 99 ∧ x.tdiv 10 < n ∧ (x.tmod 10 = 0 ∨ x.tmod 10 = 1)
def w_ok (n : Int) (k : Nat) (W : WT) : Prop := -(k : Int) ≤ W.1 ∧ W.1 ≤ k ∧ W.2.1 ≤ k ∧ ∀ j : Nat, j < W.2.1 → w_cd n (W.2.2 j)
theorem w_F_ok {n : Int} {m : Nat} {F : Nat → Int} {x : Int} (ok : ∀ j : Nat, j < m → w_cd n (F j)) (hx : w_cd n x) : ∀ j : Nat, j < w_m n m F x → w_cd n (w_F n m F x j) := by
  intro j hj
  have l := w_last_le n F x m
  unfold w_m at hj
  unfold w_F
  by_cases q : w_hit n m F x
  · rw [if_pos q] at hj ⊢
    split
    · exact ok j (by omega)
    · exact ok (j + 1) (by omega)
  · rw [if_neg q] at hj ⊢
    split
    · exact hx
    · exact ok j (by omega)
theorem w_x_ok {n t s : Int} (hn : 1 ≤ n ∧ n ≤ 9) (hs : f_okc s) (h1 : s < 100) : w_cd n (w_x n t s) := by
  have a1 := Int.emod_nonneg (s.tdiv 10 - t) (show n ≠ 0 by omega)
  have a2 := Int.emod_lt_of_pos (s.tdiv 10 - t) (show 0 < n by omega)
  unfold w_x w_cd
  generalize (s.tdiv 10 - t) % n = p at *
  rcases hs with ⟨z1, z2, z3⟩ | z | z
  · have e1 : s.tmod 10 = s % 10 := Int.tmod_eq_emod_of_nonneg z1
    rw [e1] at z3 ⊢
    have e2 : (10 * p + s % 10).tdiv 10 = (10 * p + s % 10) / 10 := Int.tdiv_eq_ediv_of_nonneg (by omega)
    have e3 : (10 * p + s % 10).tmod 10 = (10 * p + s % 10) % 10 := Int.tmod_eq_emod_of_nonneg (by omega)
    rw [e2, e3]
    refine ⟨by omega, by omega, by omega, by omega⟩
  · omega
  · omega
theorem w_st_ok {n : Int} {k : Nat} {W W' : WT} {s : Int} (hn : 1 ≤ n ∧ n ≤ 9) (ok : w_ok n k W) (hs : f_okc s) (q : w_st n W s = some W') : w_ok n (k + 1) W' := by
  obtain ⟨o1, o2, o3, o4⟩ := ok
  unfold w_st at q
  by_cases z : 100 ≤ s
  · rw [if_pos z] at q
    cases q
    refine ⟨?_, ?_, ?_, o4⟩
    · show -((k + 1 : Nat) : Int) ≤ W.1 + _; split <;> omega
    · show W.1 + _ ≤ ((k + 1 : Nat) : Int); split <;> omega
    · show W.2.1 ≤ k + 1; omega
  · rw [if_neg z] at q
    by_cases y : n ≤ s.tdiv 10
    · rw [if_pos y] at q; cases q
    · rw [if_neg y] at q
      cases q
      refine ⟨?_, ?_, ?_, w_F_ok o4 (w_x_ok hn hs (by omega))⟩
      · show -((k + 1 : Nat) : Int) ≤ W.1; omega
      · show W.1 ≤ ((k + 1 : Nat) : Int); omega
      · show w_m n W.2.1 W.2.2 _ ≤ k + 1; unfold w_m; split <;> omega
theorem w_run_ok {n : Int} {S : Nat → Int} (hn : 1 ≤ n ∧ n ≤ 9) : ∀ (k : Nat) (_ : ∀ j : Nat, j < k → f_okc (S j)) (W : WT), w_run n S k = some W → w_ok n k W
  | 0, _, W, q => by
    cases q
    exact ⟨by decide, by decide, Nat.le_refl _, fun j hj => absurd hj (Nat.not_lt_zero _)⟩
  | k + 1, hs, W, q => by
    have q2 : (w_run n S k).bind (fun W => w_st n W (S k)) = some W := q
    cases e : w_run n S k with
    | none => rw [e] at q2; cases q2
    | some W0 => rw [e] at q2; exact w_st_ok hn (w_run_ok hn k (fun j hj => hs j (by omega)) W0 e) (hs k (by omega)) q2
theorem w_rot_ok {n : Int} {m i b : Nat} {F : Nat → Int} (ok : ∀ j : Nat, j < m → w_cd n (F j)) (hi : i ≤ b) (hb : b < m) : ∀ j : Nat, j < m → w_cd n (w_rot F i b j) := by
  intro j hj
  unfold w_rot
  split
  · exact ok b hb
  · split
    · exact ok (j - 1) (by omega)
    · exact ok j hj
theorem w_srt_ok {n : Int} {m : Nat} {F : Nat → Int} (ok : ∀ j : Nat, j < m → w_cd n (F j)) : ∀ i : Nat, i ≤ m → ∀ j : Nat, j < m → w_cd n (w_srt n m F i j)
  | 0, _ => ok
  | i + 1, hi => by
    have r := w_bst_r n (w_srt n m F i) i (m - (i + 1))
    exact w_rot_ok (w_srt_ok ok i (by omega)) r.1 (by omega)
theorem f_mod2 {a n : Int} (hn : 0 < n) : (a.tmod n + n).tmod n = a % n := by
  have h1 : -n < a.tmod n := by
    have := Int.tmod_lt_of_pos (-a) hn
    rw [Int.neg_tmod] at this
    omega
  rw [Int.tmod_eq_emod_of_nonneg (by omega), Int.add_emod_right, Int.tmod_def, Int.sub_mul_emod_self_left]
