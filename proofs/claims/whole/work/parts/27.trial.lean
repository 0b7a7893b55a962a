/-! a figure tried on a floor of its own -/
/-- steps, rows, which ribbon is where, what is left of each, marks -/
abbrev TR : Type := Int × Int × (Nat → Int) × (Nat → Int) × (Nat → Int)
def t_ok (n : Int) (T : TR) : Prop := (0 ≤ T.1 ∧ T.1 ≤ 300) ∧ (0 ≤ T.2.1 ∧ T.2.1 ≤ 100) ∧ (∀ p : Nat, (p : Int) < n → 0 ≤ T.2.2.1 p ∧ T.2.2.1 p < n) ∧ (∀ p q : Nat, (p : Int) < n → (q : Int) < n → T.2.2.1 p = T.2.2.1 q → p = q) ∧ (∀ p : Nat, (p : Int) < n → 0 ≤ T.2.2.2.1 p ∧ T.2.2.2.1 p ≤ 99999) ∧ (∀ p : Nat, (p : Int) < n → 0 ≤ T.2.2.2.2 p ∧ T.2.2.2.2 p ≤ 2)
def t_sw (o : Nat → Int) (p q : Nat) : Nat → Int := fun k => if k = q then o p else if k = p then o q else o k
def t_pass (n : Int) (T : TR) (p w : Int) : Option TR :=
  if n ≤ p then none else
  let q := f_aft n p
  let a := if w = 0 then T.2.2.1 p.toNat else T.2.2.1 q.toNat
  let b := if w = 0 then T.2.2.1 q.toNat else T.2.2.1 p.toNat
  if T.2.2.2.1 a.toNat < 1 ∨ T.2.2.2.1 b.toNat < 2 then none else
  some (T.1, T.2.1, t_sw T.2.2.1 p.toNat q.toNat, (fun r => if r = a.toNat then T.2.2.2.1 r - 1 else if r = b.toNat then T.2.2.2.1 r - 2 else T.2.2.2.1 r), (fun k => if k = p.toNat then w + 1 else T.2.2.2.2 k))
abbrev t_wA (n R : Int) (T : TR) : Prop := T.2.1 < R ∧ ∀ p : Nat, p < n.toNat → 10 + T.2.1.tdiv 3 ≤ T.2.2.2.1 p
abbrev t_wB (n : Int) (cr cm : Nat → Int) (T : TR) (w : Int) : Prop := ∀ p : Nat, p < n.toNat → T.2.2.1 (f_rot n.toNat w p) = cr (9 * T.2.1.toNat + p) ∧ T.2.2.2.2 p = cm (9 * T.2.1.toNat + p)
def t_walk (n R : Int) (cr cm : Nat → Int) (T : TR) (w : Int) : Option TR :=
  if t_wA n R T then (if t_wB n cr cm T w then some (T.1, T.2.1 + 1, (fun p => T.2.2.1 (f_rot n.toNat w p)), (fun p => T.2.2.2.1 p - (10 + T.2.1.tdiv 3)), fun _ => 0) else none) else none
def t_step (n R : Int) (cr cm : Nat → Int) (T : TR) (s : Int) : Option TR :=
  if T.1 = 300 then none else if 100 ≤ s then t_walk n R cr cm (T.1 + 1, T.2) (s - 100) else t_pass n (T.1 + 1, T.2) (s.tdiv 10) (s.tmod 10)
def t_run (n R : Int) (cr cm : Nat → Int) : TR → List Int → Option TR
  | T, [] => some T
  | T, s :: t => match t_step n R cr cm T s with
    | none => none
    | some T' => t_run n R cr cm T' t
theorem t_run_1 {n R : Int} {cr cm : Nat → Int} {T T' : TR} {s : Int} {t : List Int} (e : t_step n R cr cm T s = some T') : t_run n R cr cm T (s :: t) = t_run n R cr cm T' t := by simp only [t_run, e]
theorem t_run_0 {n R : Int} {cr cm : Nat → Int} {T : TR} {s : Int} {t : List Int} (e : t_step n R cr cm T s = none) : t_run n R cr cm T (s :: t) = none := by simp only [t_run, e]
theorem t_run_app {n R : Int} {cr cm : Nat → Int} (l k : List Int) : ∀ {T : TR}, t_run n R cr cm T (l ++ k) = match t_run n R cr cm T l with
    | none => none
    | some T' => t_run n R cr cm T' k := by
  induction l with
  | nil => intro T; rfl
  | cons s t ih =>
    intro T
    show t_run n R cr cm T (s :: (t ++ k)) = _
    cases e : t_step n R cr cm T s with
    | none => rw [t_run_0 e, t_run_0 e]
    | some T' => rw [t_run_1 e, t_run_1 e, ih]
theorem t_sw_i {n : Int} {o : Nat → Int} {p q : Nat} (hp : (p : Int) < n) (hq : (q : Int) < n) (x4 : ∀ i j : Nat, (i : Int) < n → (j : Int) < n → o i = o j → i = j) (j k : Nat) (hj : (j : Int) < n) (hk : (k : Int) < n) (e : t_sw o p q j = t_sw o p q k) : j = k := by
  have i1 := x4 j k hj hk
  have i2 := x4 j q hj hq
  have i3 := x4 j p hj hp
  have i4 := x4 p k hp hk
  have i5 := x4 q k hq hk
  have i6 := x4 p q hp hq
  clear x4
  unfold t_sw at e
  split at e <;> split at e <;> (try split at e) <;> (try split at e) <;> omega
theorem t_pass_ok {n : Int} {T T' : TR} {p w : Int} (hn : 3 ≤ n) (x : t_ok n T) (hp : 0 ≤ p) (hw : 0 ≤ w ∧ w ≤ 1) (e : t_pass n T p w = some T') : t_ok n T' := by
  obtain ⟨x1, x2, x3, x4, x5, x6⟩ := x
  unfold t_pass at e
  by_cases h1 : n ≤ p
  · rw [if_pos h1] at e; cases e
  rw [if_neg h1] at e
  simp only at e
  have hq := f_aft_r (n := n) (p := p) (by omega)
  generalize f_aft n p = q at e hq
  generalize ha : (if w = 0 then T.2.2.1 p.toNat else T.2.2.1 q.toNat) = a at e
  generalize hb : (if w = 0 then T.2.2.1 q.toNat else T.2.2.1 p.toNat) = b at e
  by_cases h2 : T.2.2.2.1 a.toNat < 1 ∨ T.2.2.2.1 b.toNat < 2
  · rw [if_pos h2] at e; cases e
  rw [if_neg h2] at e
  cases e
  have y1 := x3 p.toNat (by omega)
  have y2 := x3 q.toNat (by omega)
  refine ⟨x1, x2, fun k hk => ?_, fun j k hj hk => ?_, fun k hk => ?_, fun k hk => ?_⟩
  · have := x3 k hk
    simp only [t_sw]; split <;> (try split) <;> omega
  · exact t_sw_i (by omega) (by omega) x4 j k hj hk
  · have := x5 k hk
    simp only
    split
    · rename_i z; subst z; omega
    · split
      · rename_i z; subst z; omega
      · exact this
  · have := x6 k hk
    simp only
    split <;> omega
theorem t_walk_ok {n R : Int} {cr cm : Nat → Int} {T T' : TR} {w : Int} (hn : 3 ≤ n) (hR : R ≤ 100) (x : t_ok n T) (e : t_walk n R cr cm T w = some T') : t_ok n T' := by
  obtain ⟨x1, x2, x3, x4, x5, x6⟩ := x
  unfold t_walk at e
  by_cases h1 : t_wA n R T
  · rw [if_pos h1] at e
    by_cases h2 : t_wB n cr cm T w
    · rw [if_pos h2] at e
      cases e
      have hr : ∀ k : Nat, (k : Int) < n → ((f_rot n.toNat w k : Nat) : Int) < n := fun k hk => by have := f_rot_r (w := w) (j := k) (show 0 < n.toNat by omega) (by omega); omega
      have hg : 0 ≤ T.2.1.tdiv 3 := Int.tdiv_nonneg x2.1 (by decide)
      refine ⟨x1, ⟨by simp only; omega, by simp only; have := h1.1; omega⟩, fun k hk => x3 _ (hr k hk), fun j k hj hk z => ?_, fun k hk => ?_, fun k hk => ⟨Int.le_refl _, (show (0 : Int) ≤ 2 by decide)⟩⟩
      · exact f_rot_i (w := w) (n := n.toNat) (by omega) (by omega) (x4 _ _ (hr j hj) (hr k hk) z)
      · have := x5 k hk; have := h1.2 k (by omega); simp only; omega
    · rw [if_neg h2] at e; cases e
  · rw [if_neg h1] at e; cases e
theorem t_step_ok {n R : Int} {cr cm : Nat → Int} {T T' : TR} {s : Int} (hn : 3 ≤ n) (hR : R ≤ 100) (x : t_ok n T) (hs : f_okc s) (e : t_step n R cr cm T s = some T') : t_ok n T' := by
  unfold t_step at e
  by_cases h1 : T.1 = 300
  · rw [if_pos h1] at e; cases e
  rw [if_neg h1] at e
  have x' : t_ok n (T.1 + 1, T.2) := ⟨by have := x.1; simp only; omega, x.2⟩
  by_cases h2 : 100 ≤ s
  · rw [if_pos h2] at e; exact t_walk_ok hn hR x' e
  · rw [if_neg h2] at e
    have d := f_okc_d hs (by omega)
    refine t_pass_ok hn x' d.2.1 ?_ e
    rcases hs with z | z | z <;> omega
/-- the reference's trial rows -/
def TM (h : HT) (T : TR) : Prop := h 81 43 = T.1 ∧ h 81 42 = T.2.1 ∧ ∀ p : Nat, (p : Int) < h 81 1 → h 109 p = T.2.2.1 p ∧ h 110 p = T.2.2.2.1 p ∧ h 111 p = T.2.2.2.2 p
def FRt (h h' : HT) : Prop := ∀ a i : Nat, a ≠ 109 → a ≠ 110 → a ≠ 111 → (a = 81 → i ≠ 42 ∧ i ≠ 43) → h' a i = h a i
theorem FRt.rf {h : HT} : FRt h h := fun _ _ _ _ _ _ => rfl
theorem FRt.tr {h h1 h2 : HT} (x : FRt h h1) (y : FRt h1 h2) : FRt h h2 := fun a i p q r s => (y a i p q r s).trans (x a i p q r s)
/-- what trying a step says -/
def t_says (n R : Int) (cr cm : Nat → Int) (T : TR) (s : Int) (v : Int) (h' : HT) : Prop := (t_step n R cr cm T s = none → v = 0) ∧ ∀ T', t_step n R cr cm T s = some T' → v = 1 ∧ TM h' T' 
