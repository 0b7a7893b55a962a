/-! fewest: rows and ways as lists -/
theorem zw_max_c : ∀ (l : List Nat) (m v : Nat), m ≤ v → (∀ a ∈ l, a ≤ v) → (v = m ∨ v ∈ l) → zw_max m l = v
  | [], m, v, _, _, h3 => by
    rcases h3 with h | h
    · exact h.symm
    · cases h
  | a :: t, m, v, h1, h2, h3 => by
    show zw_max (bif Nat.ble a m then m else a) t = v
    have ha := h2 a List.mem_cons_self
    have ht : ∀ b ∈ t, b ≤ v := fun b hb => h2 b (List.mem_cons_of_mem _ hb)
    cases hb : Nat.ble a m with
    | true =>
      have le := Nat.le_of_ble_eq_true hb
      refine zw_max_c t m v h1 ht ?_
      rcases h3 with h | h
      · exact Or.inl h
      · rcases List.mem_cons.mp h with h | h
        · left; omega
        · exact Or.inr h
    | false =>
      have lt : ¬ a ≤ m := fun q => by rw [Nat.ble_eq_true_of_le q] at hb; cases hb
      refine zw_max_c t a v ha ht ?_
      rcases h3 with h | h
      · left; omega
      · exact List.mem_cons.mp h
theorem zw_min_c : ∀ (l : List Nat) (m v : Nat), v ≤ m → (∀ a ∈ l, v ≤ a) → (v = m ∨ v ∈ l) → zw_min m l = v
  | [], m, v, _, _, h3 => by
    rcases h3 with h | h
    · exact h.symm
    · cases h
  | a :: t, m, v, h1, h2, h3 => by
    show zw_min (bif Nat.ble m a then m else a) t = v
    have ha := h2 a List.mem_cons_self
    have ht : ∀ b ∈ t, v ≤ b := fun b hb => h2 b (List.mem_cons_of_mem _ hb)
    cases hb : Nat.ble m a with
    | true =>
      have le := Nat.le_of_ble_eq_true hb
      refine zw_min_c t m v h1 ht ?_
      rcases h3 with h | h
      · exact Or.inl h
      · rcases List.mem_cons.mp h with h | h
        · left; omega
        · exact Or.inr h
    | false =>
      have lt : ¬ m ≤ a := fun q => by rw [Nat.ble_eq_true_of_le q] at hb; cases hb
      refine zw_min_c t a v ha ht ?_
      rcases h3 with h | h
      · left; omega
      · exact List.mem_cons.mp h
theorem zw_one_set {v u : Nat} : ∀ (l : List Nat) (k : Nat), l[k]? = some v → (∀ j : Nat, j < k → l[j]? ≠ some v) → zw_one v u l = l.set k u
  | [], k, h, _ => by simp at h
  | a :: t, 0, h, _ => by
    have : a = v := by simpa using h
    subst this
    show (bif Nat.beq a a then u :: t else a :: zw_one a u t) = u :: t
    rw [Nat.beq_refl]; rfl
  | a :: t, k + 1, h, h2 => by
    have ne : a ≠ v := fun q => h2 0 (Nat.succ_pos _) (by rw [q]; rfl)
    have hb : Nat.beq a v = false := by
      cases hb : Nat.beq a v with
      | false => rfl
      | true => exact absurd (Nat.eq_of_beq_eq_true hb) ne
    show (bif Nat.beq a v then u :: t else a :: zw_one v u t) = a :: t.set k u
    rw [hb]
    show a :: zw_one v u t = a :: t.set k u
    rw [zw_one_set t k (by simpa using h) (fun j hj => by have := h2 (j + 1) (by omega); simpa using this)]
/-- one settling -/
theorem zw_step {n k : Nat} {l : List Nat} {m m2 vm v2 : Nat} (hm : l[m]? = some vm) (h1 : ∀ (j a : Nat), l[j]? = some a → a ≤ vm) (h2 : ∀ (j a : Nat), j < m → l[j]? = some a → a < vm) (hm2 : l[m2]? = some v2) (h3 : ∀ (j a : Nat), l[j]? = some a → v2 ≤ a) (h4 : ∀ (j a : Nat), j < m2 → l[j]? = some a → v2 < a) (hb : v2 ≤ 1000) : (vm ≤ v2 + n → zw_set n (k + 1) l = l) ∧ (¬ vm ≤ v2 + n → zw_set n (k + 1) l = zw_set n k ((l.set m (vm - n)).set m2 (v2 + n))) := by
  have eM : zw_max 0 l = vm := zw_max_c l 0 vm (Nat.zero_le _) (fun a ha => by obtain ⟨j, hj⟩ := List.mem_iff_getElem?.mp ha; exact h1 j a hj) (Or.inr (List.mem_iff_getElem?.mpr ⟨m, hm⟩))
  have eN : zw_min 1000 l = v2 := zw_min_c l 1000 v2 hb (fun a ha => by obtain ⟨j, hj⟩ := List.mem_iff_getElem?.mp ha; exact h3 j a hj) (Or.inr (List.mem_iff_getElem?.mpr ⟨m2, hm2⟩))
  have e : zw_set n (k + 1) l = bif Nat.ble (zw_max 0 l) (Nat.add (zw_min 1000 l) n) then l else zw_set n k (zw_one (zw_min 1000 l) (Nat.add (zw_min 1000 l) n) (zw_one (zw_max 0 l) (Nat.sub (zw_max 0 l) n) l)) := rfl
  rw [e, eM, eN]
  refine ⟨fun q => ?_, fun q => ?_⟩
  · rw [show Nat.ble vm (Nat.add v2 n) = true from Nat.ble_eq_true_of_le q]; rfl
  · have hbf : Nat.ble vm (Nat.add v2 n) = false := by
      cases hb : Nat.ble vm (Nat.add v2 n) with
      | false => rfl
      | true => exact absurd (Nat.le_of_ble_eq_true hb) q
    rw [hbf]
    show zw_set n k (zw_one v2 (v2 + n) (zw_one vm (vm - n) l)) = _
    have e1 : zw_one vm (vm - n) l = l.set m (vm - n) := zw_one_set l m hm (fun j hj z => by have := h2 j vm hj z; omega)
    have ne : m ≠ m2 := fun z => by rw [z, hm2] at hm; have := Option.some.inj hm; omega
    rw [e1, zw_one_set (l.set m (vm - n)) m2 (by rw [List.getElem?_set_ne ne]; exact hm2) (fun j hj z => by
      by_cases w : m = j
      · subst w
        have hl : m < l.length := (List.getElem?_eq_some_iff.mp hm).1
        rw [List.getElem?_set_self hl] at z
        have := Option.some.inj z
        omega
      · rw [List.getElem?_set_ne w] at z
        have := h4 j v2 hj z
        omega)]
/-- the ways of a row -/
theorem zw_ways_at : ∀ (l : List Nat) (i j : Nat), (zw_ways i l)[j]? = (l[j]?).map (fun r => r + 32 - (i + j))
  | [], i, j => by simp [zw_ways]
  | a :: t, i, 0 => by simp [zw_ways]
  | a :: t, i, j + 1 => by
    show (zw_ways (Nat.succ i) t)[j]? = (t[j]?).map _
    rw [zw_ways_at t (Nat.succ i) j]
    congr 1
    funext r
    omega
theorem zl_at {n : Nat} {o : Nat → Int} {j : Nat} : (zl n o)[j]? = if j < n then some (o j).toNat else none := by
  unfold zl
  by_cases h : j < n
  · simp [h]
  · simp [h]
/-- the sums, from the front -/
theorem zw_row_s {n a j w s : Nat} {l : List Nat} (h : l[j]? = some w) : zw_row n a j (l.drop j) s = zw_row n a (j + 1) (l.drop (j + 1)) (s + zw_q n a (w + j)) := by
  obtain ⟨hl, e⟩ := List.getElem?_eq_some_iff.mp h
  rw [List.drop_eq_getElem_cons hl, e]
  rfl
theorem zw_row_e {n a j s : Nat} {l : List Nat} (h : l.length ≤ j) : zw_row n a j (l.drop j) s = s := by
  rw [List.drop_eq_nil_of_le h]; rfl
theorem zw_sum_s {n i w s : Nat} {l : List Nat} (h : l[i]? = some w) : zw_sum n i (l.drop i) s = zw_sum n (i + 1) (l.drop (i + 1)) (zw_row n (w + i) (i + 1) (l.drop (i + 1)) s) := by
  obtain ⟨hl, e⟩ := List.getElem?_eq_some_iff.mp h
  rw [List.drop_eq_getElem_cons hl, e]
  rfl
theorem zw_sum_e {n i s : Nat} {l : List Nat} (h : l.length ≤ i) : zw_sum n i (l.drop i) s = s := by
  rw [List.drop_eq_nil_of_le h]; rfl
/-- whole rounds between two -/
theorem zw_q_e {n a b : Nat} (hn : 0 < n) : ((zw_q n a b : Nat) : Int) = f_ab (((b : Int) - a) / n) := by
  unfold zw_q f_ab
  by_cases h : a ≤ b
  · rw [Nat.ble_eq_true_of_le h]
    show ((((b - a) / n : Nat)) : Int) = _
    have e : ((b : Int) - a) / n = (((b - a) / n : Nat) : Int) := by rw [Int.natCast_ediv]; congr 1; omega
    rw [e]
    generalize (b - a) / n = c
    split <;> omega
  · have hb : Nat.ble a b = false := by
      cases hb : Nat.ble a b with
      | false => rfl
      | true => exact absurd (Nat.le_of_ble_eq_true hb) h
    rw [hb]
    show ((((a - b + (n - 1)) / n : Nat)) : Int) = _
    have e : ((b : Int) - a) / n = -((((a - b + (n - 1)) / n : Nat)) : Int) := by
      have q := Nat.div_add_mod (a - b + (n - 1)) n
      have r := Nat.mod_lt (a - b + (n - 1)) hn
      generalize (a - b + (n - 1)) / n = c at *
      generalize (a - b + (n - 1)) % n = m at *
      have e2 : (b : Int) - a = (n : Int) * (-(c : Int)) + ((n - 1 - m : Nat) : Int) := by
        have : ((n * c : Nat) : Int) = (n : Int) * (c : Int) := by rw [Int.natCast_mul]
        rw [Int.mul_neg, ← this]
        omega
      rw [e2, Int.add_comm, Int.add_mul_ediv_left _ _ (by omega), Int.ediv_eq_zero_of_lt (by omega) (by omega)]
      omega
    rw [e]
    generalize (a - b + (n - 1)) / n = c
    split <;> omega
