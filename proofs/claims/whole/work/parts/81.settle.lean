/-! fewest: the class settles the ways -/
def AW (n : Nat) (w : Nat → Int) (l : List Nat) : Prop := l.length = n ∧ ∀ (j a : Nat), l[j]? = some a → w j = (a : Int) - 32 ∧ 20 ≤ a ∧ a ≤ 50
def MXp (w : Nat → Int) (i m : Nat) : Prop := m < i ∧ (∀ j : Nat, j < i → w j ≤ w m) ∧ ∀ j : Nat, j < m → w j < w m
def MNp (w : Nat → Int) (i m : Nat) : Prop := m < i ∧ (∀ j : Nat, j < i → w m ≤ w j) ∧ ∀ j : Nat, j < m → w m < w j
theorem AW.at {n : Nat} {w : Nat → Int} {l : List Nat} (x : AW n w l) {j : Nat} (hj : j < n) : ∃ a : Nat, l[j]? = some a ∧ w j = (a : Int) - 32 ∧ 20 ≤ a ∧ a ≤ 50 := by
  have hl : j < l.length := by rw [x.1]; exact hj
  exact ⟨l[j], List.getElem?_eq_getElem hl, x.2 j _ (List.getElem?_eq_getElem hl)⟩
theorem AW.r {n : Nat} {w : Nat → Int} {l : List Nat} (x : AW n w l) {j : Nat} (hj : j < n) : -12 ≤ w j ∧ w j ≤ 18 := by
  obtain ⟨a, _, h1, h2, h3⟩ := x.at hj
  omega
theorem MXp.s1 {w : Nat → Int} {i m : Nat} (x : MXp w i m) (h : w m < w i) : MXp w (i + 1) i := by
  refine ⟨by omega, fun j hj => ?_, fun j hj => by have := x.2.1 j hj; omega⟩
  by_cases z : j = i
  · subst z; exact Int.le_refl _
  · have := x.2.1 j (by omega); omega
theorem MXp.s0 {w : Nat → Int} {i m : Nat} (x : MXp w i m) (h : ¬ w m < w i) : MXp w (i + 1) m := by
  have := x.1
  refine ⟨by omega, fun j hj => ?_, x.2.2⟩
  by_cases z : j = i
  · subst z; omega
  · exact x.2.1 j (by omega)
theorem MNp.s1 {w : Nat → Int} {i m : Nat} (x : MNp w i m) (h : w i < w m) : MNp w (i + 1) i := by
  refine ⟨by omega, fun j hj => ?_, fun j hj => by have := x.2.1 j hj; omega⟩
  by_cases z : j = i
  · subst z; exact Int.le_refl _
  · have := x.2.1 j (by omega); omega
theorem MNp.s0 {w : Nat → Int} {i m : Nat} (x : MNp w i m) (h : ¬ w i < w m) : MNp w (i + 1) m := by
  have := x.1
  refine ⟨by omega, fun j hj => ?_, x.2.2⟩
  by_cases z : j = i
  · subst z; omega
  · exact x.2.1 j (by omega)
theorem AW.step {n k : Nat} {w : Nat → Int} {l : List Nat} {m m2 : Nat} (x : AW n w l) (p : MXp w n m) (q : MNp w n m2) : (w m - w m2 ≤ n → zw_set n (k + 1) l = l) ∧ (¬ w m - w m2 ≤ n → ∃ l' : List Nat, zw_set n (k + 1) l = zw_set n k l' ∧ ∀ w' : Nat → Int, w' m = w m - n → w' m2 = w m2 + n → (∀ j : Nat, j < n → j ≠ m → j ≠ m2 → w' j = w j) → AW n w' l') := by
  obtain ⟨vm, a1, a2, a3, a4⟩ := x.at p.1
  obtain ⟨v2, b1, b2, b3, b4⟩ := x.at q.1
  have lt : ∀ {j a : Nat}, l[j]? = some a → j < n := fun h => by rw [← x.1]; exact (List.getElem?_eq_some_iff.mp h).1
  have st := zw_step (n := n) (k := k) a1 (fun j a h => by have := p.2.1 j (lt h); have := (x.2 j a h).1; omega) (fun j a hj h => by have := p.2.2 j hj; have := (x.2 j a h).1; omega) b1 (fun j a h => by have := q.2.1 j (lt h); have := (x.2 j a h).1; omega) (fun j a hj h => by have := q.2.2 j hj; have := (x.2 j a h).1; omega) (by omega)
  refine ⟨fun z => st.1 (by omega), fun z => ⟨_, st.2 (by omega), fun w' e1 e2 e3 => ⟨by simp [x.1], fun j a h => ?_⟩⟩⟩
  have hm : m < l.length := by rw [x.1]; exact p.1
  have hm2 : m2 < l.length := by rw [x.1]; exact q.1
  have ne : m ≠ m2 := fun z' => by subst z'; rw [a1] at b1; have := Option.some.inj b1; omega
  by_cases z1 : m2 = j
  · subst z1
    rw [List.getElem?_set_self (by simpa using hm2)] at h
    have := Option.some.inj h
    rw [e2]; omega
  · rw [List.getElem?_set_ne z1] at h
    by_cases z2 : m = j
    · subst z2
      rw [List.getElem?_set_self hm] at h
      have := Option.some.inj h
      rw [e1]; omega
    · rw [List.getElem?_set_ne z2] at h
      rw [e3 j (lt h) (fun q => z2 q.symm) (fun q => z1 q.symm)]
      exact x.2 j a h
theorem AW.start {n : Nat} {w r : Nat → Int} (hn : n ≤ 7) (hr : ∀ j : Nat, j < n → 0 ≤ r j ∧ r j < n) (e : ∀ j : Nat, j < n → w j = r j - j) : AW n w (zw_ways 0 (zl n r)) := by
  have at_ : ∀ j : Nat, (zw_ways 0 (zl n r))[j]? = if j < n then some ((r j).toNat + 32 - j) else none := fun j => by
    rw [zw_ways_at, zl_at]
    by_cases h : j < n
    · rw [if_pos h, if_pos h]; show some _ = some _; rw [Nat.zero_add]
    · rw [if_neg h, if_neg h]; rfl
  refine ⟨?_, fun j a h => ?_⟩
  · have zl_len : ∀ (l : List Nat) (i : Nat), (zw_ways i l).length = l.length := fun l => by
      induction l with
      | nil => intro i; rfl
      | cons a t ih => intro i; show (zw_ways (Nat.succ i) t).length + 1 = t.length + 1; rw [ih]
    rw [zl_len]; simp [zl]
  · rw [at_] at h
    by_cases z : j < n
    · rw [if_pos z] at h
      have := Option.some.inj h
      have := hr j z
      rw [e j z]; omega
    · rw [if_neg z] at h; cases h
