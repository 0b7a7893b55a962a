/-! orders, pure -/
/-- o 0 .. o (n - 1) are 0 .. n - 1 in some order -/
def isP (n : Nat) (o : Nat → Int) : Prop := (∀ p : Nat, p < n → 0 ≤ o p ∧ o p < n) ∧ ∀ p q : Nat, p < n → q < n → o p = o q → p = q
theorem isP_c {n : Nat} {o o' : Nat → Int} (e : ∀ p : Nat, p < n → o p = o' p) (x : isP n o) : isP n o' :=
  ⟨fun p hp => by rw [← e p hp]; exact x.1 p hp, fun p q hp hq z => x.2 p q hp hq (by rw [e p hp, e q hq]; exact z)⟩
/-- how many of o 0 .. o (m - 1) are below x -/
def c_lt (o : Nat → Int) (x : Int) : Nat → Nat
  | 0 => 0
  | m + 1 => c_lt o x m + if o m < x then 1 else 0
def c_eq (o : Nat → Int) (x : Int) : Nat → Nat
  | 0 => 0
  | m + 1 => c_eq o x m + if o m = x then 1 else 0
theorem c_lt_s (o : Nat → Int) (x : Int) : ∀ m : Nat, c_lt o (x + 1) m = c_lt o x m + c_eq o x m
  | 0 => rfl
  | m + 1 => by
    have ih := c_lt_s o x m
    unfold c_lt c_eq
    rw [ih]
    by_cases a : o m < x
    · rw [if_pos (by omega), if_pos a, if_neg (by omega)]; omega
    · by_cases b : o m = x
      · rw [if_pos (by omega), if_neg a, if_pos b]; omega
      · rw [if_neg (by omega), if_neg a, if_neg b]; omega
theorem c_lt_0 (o : Nat → Int) : ∀ m : Nat, (∀ q : Nat, q < m → 0 ≤ o q) → c_lt o 0 m = 0
  | 0, _ => rfl
  | m + 1, h => by
    unfold c_lt
    rw [c_lt_0 o m (fun q hq => h q (by omega)), if_neg (by have := h m (by omega); omega)]
theorem c_lt_n (o : Nat → Int) (n : Int) : ∀ m : Nat, (∀ q : Nat, q < m → o q < n) → c_lt o n m = m
  | 0, _ => rfl
  | m + 1, h => by
    unfold c_lt
    rw [c_lt_n o n m (fun q hq => h q (by omega)), if_pos (h m (by omega))]
theorem c_eq_0 (o : Nat → Int) (x : Int) : ∀ m : Nat, (∀ q : Nat, q < m → o q ≠ x) → c_eq o x m = 0
  | 0, _ => rfl
  | m + 1, h => by
    unfold c_eq
    rw [c_eq_0 o x m (fun q hq => h q (by omega)), if_neg (h m (by omega))]
theorem c_eq_1 (o : Nat → Int) (x : Int) : ∀ m : Nat, (∀ p q : Nat, p < m → q < m → o p = o q → p = q) → c_eq o x m ≤ 1
  | 0, _ => by unfold c_eq; omega
  | m + 1, h => by
    unfold c_eq
    by_cases a : o m = x
    · rw [if_pos a, c_eq_0 o x m (fun q hq e => by have := h q m (by omega) (by omega) (by rw [a, e]); omega)]; omega
    · rw [if_neg a]; exact c_eq_1 o x m (fun p q hp hq => h p q (by omega) (by omega))
theorem c_eq_p (o : Nat → Int) (x : Int) : ∀ m : Nat, 0 < c_eq o x m → ∃ q : Nat, q < m ∧ o q = x
  | 0, h => by unfold c_eq at h; omega
  | m + 1, h => by
    unfold c_eq at h
    by_cases a : o m = x
    · exact ⟨m, by omega, a⟩
    · rw [if_neg a] at h
      obtain ⟨q, q1, q2⟩ := c_eq_p o x m (by omega)
      exact ⟨q, by omega, q2⟩
theorem c_lt_c {o o' : Nat → Int} (x : Int) : ∀ m : Nat, (∀ q : Nat, q < m → o q = o' q) → c_lt o x m = c_lt o' x m
  | 0, _ => rfl
  | m + 1, h => by
    unfold c_lt
    rw [c_lt_c x m (fun q hq => h q (by omega)), h m (by omega)]
theorem c_lt_le (o : Nat → Int) (x : Int) : ∀ m : Nat, c_lt o x m ≤ m
  | 0 => Nat.le_refl _
  | m + 1 => by
    have := c_lt_le o x m
    unfold c_lt
    split <;> omega
theorem c_lt_m (o : Nat → Int) (x : Int) (p : Nat) : ∀ j : Nat, c_lt o x p ≤ c_lt o x (p + j)
  | 0 => Nat.le_refl _
  | j + 1 => by
    have := c_lt_m o x p j
    show _ ≤ c_lt o x (p + j) + _
    omega
/-- from x to x + k: no more than k -/
theorem c_lt_k (o : Nat → Int) (x : Int) (m : Nat) (h : ∀ p q : Nat, p < m → q < m → o p = o q → p = q) : ∀ k : Nat, c_lt o (x + k) m ≤ c_lt o x m + k
  | 0 => by simp
  | k + 1 => by
    have ih := c_lt_k o x m h k
    have e := c_lt_s o (x + k) m
    have l := c_eq_1 o (x + k) m h
    rw [show x + ((k + 1 : Nat) : Int) = x + k + 1 by omega, e]
    omega
theorem isP_cnt {n : Nat} {o : Nat → Int} (x : isP n o) (v : Nat) (hv : v ≤ n) : c_lt o v n = v := by
  have a := c_lt_k o 0 n x.2 v
  rw [c_lt_0 o n (fun q hq => (x.1 q hq).1), Int.zero_add] at a
  have b := c_lt_k o v n x.2 (n - v)
  rw [show (v : Int) + ((n - v : Nat) : Int) = n by omega, c_lt_n o n n (fun q hq => (x.1 q hq).2)] at b
  omega
theorem isP_onto {n : Nat} {o : Nat → Int} (x : isP n o) (v : Nat) (hv : v < n) : ∃ q : Nat, q < n ∧ o q = v := by
  refine c_eq_p o v n ?_
  have a := isP_cnt x v (by omega)
  have b := isP_cnt x (v + 1) (by omega)
  rw [show ((v + 1 : Nat) : Int) = v + 1 by omega, c_lt_s] at b
  omega
/-- how many behind p are below it -/
def f_less (n : Nat) (o : Nat → Int) (p : Nat) : Nat := c_lt o (o p) n - c_lt o (o p) (p + 1)
def f_rk (n : Nat) (o : Nat → Int) : Nat → Nat
  | 0 => 0
  | p + 1 => f_rk n o p * (n - p) + f_less n o p
abbrev rk_ (n : Nat) (o : Nat → Int) : Nat := f_rk n o n
def f_P (n : Nat) : Nat → Nat
  | 0 => 1
  | p + 1 => f_P n p * (n - p)
theorem f_less_r {n p : Nat} (o : Nat → Int) (hp : p < n) : f_less n o p < n - p := by
  unfold f_less
  have a : c_lt o (o p) n ≤ c_lt o (o p) (p + 1) + (n - (p + 1)) := by
    have q : ∀ j : Nat, c_lt o (o p) (p + 1 + j) ≤ c_lt o (o p) (p + 1) + j := by
      intro j
      induction j with
      | zero => exact Nat.le_refl _
      | succ j ih =>
        have : c_lt o (o p) (p + 1 + (j + 1)) = c_lt o (o p) (p + 1 + j) + if o (p + 1 + j) < o p then 1 else 0 := rfl
        rw [this]
        split <;> omega
    have := q (n - (p + 1))
    rwa [show p + 1 + (n - (p + 1)) = n by omega] at this
  omega
theorem f_rk_lt {n : Nat} (o : Nat → Int) : ∀ p : Nat, p ≤ n → f_rk n o p < f_P n p
  | 0, _ => by show 0 < 1; omega
  | p + 1, hp => by
    have ih := f_rk_lt (n := n) o p (by omega)
    have l := f_less_r o (show p < n by omega)
    show f_rk n o p * (n - p) + f_less n o p < f_P n p * (n - p)
    have : (f_rk n o p + 1) * (n - p) ≤ f_P n p * (n - p) := Nat.mul_le_mul_right _ ih
    rw [Nat.add_mul] at this
    omega
theorem c_lt_pp (o : Nat → Int) (p : Nat) : c_lt o (o p) (p + 1) = c_lt o (o p) p := by
  show c_lt o (o p) p + _ = _
  rw [if_neg (by omega), Nat.add_zero]
theorem f_less_e {n p : Nat} {o : Nat → Int} (x : isP n o) (hp : p < n) : (f_less n o p : Int) = o p - c_lt o (o p) p := by
  have a := isP_cnt x (o p).toNat (by have := x.1 p hp; omega)
  have e : (((o p).toNat : Nat) : Int) = o p := by have := x.1 p hp; omega
  rw [e] at a
  have b := c_lt_m o (o p) (p + 1) (n - (p + 1))
  rw [show p + 1 + (n - (p + 1)) = n by omega] at b
  unfold f_less
  rw [c_lt_pp] at b ⊢
  omega
/-- the first difference decides -/
theorem f_less_lt {n p : Nat} {o o' : Nat → Int} (x : isP n o) (y : isP n o') (hp : p < n) (e : ∀ q : Nat, q < p → o q = o' q) (l : o p < o' p) : f_less n o p < f_less n o' p := by
  have a := f_less_e x hp
  have b := f_less_e y hp
  have inj : ∀ r q : Nat, r < p → q < p → o r = o q → r = q := fun r q hr hq => x.2 r q (by omega) (by omega)
  have c : c_eq o (o p) p = 0 := c_eq_0 o (o p) p (fun q hq z => by have := x.2 q p (by omega) hp z; omega)
  have k := c_lt_k o (o p + 1) p inj (o' p - (o p + 1)).toNat
  rw [show o p + 1 + (((o' p - (o p + 1)).toNat : Nat) : Int) = o' p by omega, c_lt_s, c] at k
  rw [← c_lt_c (o' p) p e] at b
  omega
theorem f_rk_c {n : Nat} {o o' : Nat → Int} (e : ∀ q : Nat, q < n → o q = o' q) : ∀ p : Nat, p ≤ n → f_rk n o p = f_rk n o' p
  | 0, _ => rfl
  | p + 1, hp => by
    show f_rk n o p * (n - p) + f_less n o p = f_rk n o' p * (n - p) + f_less n o' p
    unfold f_less
    rw [f_rk_c e p (by omega), ← e p (by omega), c_lt_c _ n e, c_lt_c _ (p + 1) (fun q hq => e q (by omega))]
theorem f_rk_pre {n : Nat} {o o' : Nat → Int} (x : isP n o) (y : isP n o') : ∀ p : Nat, p ≤ n → (∀ q : Nat, q < p → o q = o' q) → f_rk n o p = f_rk n o' p
  | 0, _, _ => rfl
  | p + 1, hp, e => by
    show f_rk n o p * (n - p) + f_less n o p = f_rk n o' p * (n - p) + f_less n o' p
    have a := f_less_e x (show p < n by omega)
    have b := f_less_e y (show p < n by omega)
    rw [e p (by omega), c_lt_c _ p (fun q hq => e q (by omega)), ← b] at a
    rw [f_rk_pre x y p (by omega) (fun q hq => e q (by omega)), Int.ofNat_inj.mp a]
theorem f_rk_up {n : Nat} {o o' : Nat → Int} {p : Nat} (l : f_rk n o p < f_rk n o' p) : ∀ j : Nat, p + j ≤ n → f_rk n o (p + j) < f_rk n o' (p + j)
  | 0, _ => l
  | j + 1, hj => by
    have ih := f_rk_up l j (by omega)
    have a := f_less_r o (show p + j < n by omega)
    show f_rk n o (p + j) * (n - (p + j)) + f_less n o (p + j) < f_rk n o' (p + j) * (n - (p + j)) + f_less n o' (p + j)
    have : (f_rk n o (p + j) + 1) * (n - (p + j)) ≤ f_rk n o' (p + j) * (n - (p + j)) := Nat.mul_le_mul_right _ ih
    rw [Nat.add_mul] at this
    omega
/-- ranks are as the orders are -/
theorem rk_lt {n p : Nat} {o o' : Nat → Int} (x : isP n o) (y : isP n o') (hp : p < n) (e : ∀ q : Nat, q < p → o q = o' q) (l : o p < o' p) : rk_ n o < rk_ n o' := by
  have a := f_rk_pre x y p (by omega) e
  have b := f_less_lt x y hp e l
  have c : f_rk n o (p + 1) < f_rk n o' (p + 1) := by
    show f_rk n o p * (n - p) + f_less n o p < f_rk n o' p * (n - p) + f_less n o' p
    rw [a]; omega
  have := f_rk_up c (n - (p + 1)) (by omega)
  rwa [show p + 1 + (n - (p + 1)) = n by omega] at this
theorem rk_inj {n : Nat} {o o' : Nat → Int} (x : isP n o) (y : isP n o') (e : rk_ n o = rk_ n o') : ∀ k : Nat, k ≤ n → ∀ p : Nat, p < k → o p = o' p
  | 0, _, p, hp => absurd hp (Nat.not_lt_zero _)
  | k + 1, hk, p, hp => by
    have ih := rk_inj x y e k (by omega)
    rcases Nat.lt_succ_iff_lt_or_eq.mp hp with z | z
    · exact ih p z
    · subst z
      rcases Int.lt_trichotomy (o p) (o' p) with z | z | z
      · have := rk_lt x y (by omega) ih z; omega
      · exact z
      · have := rk_lt y x (by omega) (fun q hq => (ih q hq).symm) z; omega
/-- what is left of v above the digits from p on -/
def f_lf (n v : Nat) : Nat → Nat
  | 0 => v
  | i + 1 => f_lf n v i / (i + 1)
def f_dgt (n v p : Nat) : Nat := f_lf n v (n - 1 - p) % (n - p)
theorem f_lf_0 {n v : Nat} : ∀ i : Nat, i ≤ n → v < f_P n n → f_lf n v i < f_P n (n - i)
  | 0, _, h => h
  | i + 1, hi, h => by
    have ih := f_lf_0 i (by omega) h
    rw [show n - i = (n - (i + 1)) + 1 by omega] at ih
    have ih2 : f_lf n v i < f_P n (n - (i + 1)) * (n - (n - (i + 1))) := ih
    rw [show n - (n - (i + 1)) = i + 1 by omega] at ih2
    exact Nat.div_lt_of_lt_mul (by rw [Nat.mul_comm]; exact ih2)
/-- digits that are the orders' own give its rank -/
theorem rk_dg {n v : Nat} {o : Nat → Int} (hv : v < f_P n n) (hd : ∀ p : Nat, p < n → f_less n o p = f_dgt n v p) : ∀ p : Nat, p ≤ n → f_rk n o p = f_lf n v (n - p)
  | 0, _ => by
    have := f_lf_0 n (Nat.le_refl n) hv
    rw [Nat.sub_self] at this
    show 0 = f_lf n v n
    have h1 : f_P n 0 = 1 := rfl
    omega
  | p + 1, hp => by
    have ih := rk_dg hv hd p (by omega)
    show f_rk n o p * (n - p) + f_less n o p = _
    rw [ih, hd p (by omega)]
    unfold f_dgt
    obtain ⟨i, hi⟩ : ∃ i : Nat, n - p = i + 1 := ⟨n - p - 1, by omega⟩
    rw [show n - 1 - p = i by omega, show n - (p + 1) = i by omega, hi]
    show f_lf n v i / (i + 1) * (i + 1) + f_lf n v i % (i + 1) = _
    rw [Nat.mul_comm]
    exact Nat.div_add_mod _ _
/-- two neighbours change -/
def f_sw (n : Nat) (o : Nat → Int) (p : Nat) (j : Nat) : Int := if j = p then o (if p + 1 = n then 0 else p + 1) else if j = (if p + 1 = n then 0 else p + 1) then o p else o j
theorem f_sw_P {n : Nat} {o : Nat → Int} (x : isP n o) {p : Nat} (hp : p < n) (hn : 2 ≤ n) : isP n (f_sw n o p) := by
  have ha : (if p + 1 = n then 0 else p + 1) < n := by split <;> omega
  have hb : (if p + 1 = n then 0 else p + 1) ≠ p := by split <;> omega
  unfold f_sw
  generalize (if p + 1 = n then 0 else p + 1) = a at *
  refine ⟨fun q hq => ?_, fun q r hq hr e => ?_⟩
  · show 0 ≤ (if q = p then o a else if q = a then o p else o q) ∧ (if q = p then o a else if q = a then o p else o q) < n
    split
    · exact x.1 a ha
    · split
      · exact x.1 p hp
      · exact x.1 q hq
  · have e2 : (if q = p then o a else if q = a then o p else o q) = (if r = p then o a else if r = a then o p else o r) := e
    have i1 := x.2 a p ha hp
    have i2 := x.2 a q ha hq
    have i3 := x.2 a r ha hr
    have i4 := x.2 p q hp hq
    have i5 := x.2 p r hp hr
    have i6 := x.2 q r hq hr
    grind
theorem f_sw_sw {n : Nat} {o : Nat → Int} {p : Nat} (hp : p < n) (hn : 2 ≤ n) (j : Nat) : f_sw n (f_sw n o p) p j = o j := by
  have hb : (if p + 1 = n then 0 else p + 1) ≠ p := by split <;> omega
  unfold f_sw
  generalize (if p + 1 = n then 0 else p + 1) = a at *
  grind
