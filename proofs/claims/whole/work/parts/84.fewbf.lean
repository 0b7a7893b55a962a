/-! fewest: the count is a distance -/
theorem zw_sw_at : ∀ (l : List Nat) (q j : Nat), q + 1 < l.length → (zw_sw q l)[j]? = if j = q then l[q + 1]? else if j = q + 1 then l[q]? else l[j]?
  | [], q, j, h => absurd h (Nat.not_lt_zero _)
  | [a], q, j, h => absurd h (by simp)
  | a :: b :: t, 0, j, _ => by
    show (b :: a :: t)[j]? = _
    match j with
    | 0 => rfl
    | 1 => rfl
    | j + 2 => rw [if_neg (by omega), if_neg (by omega)]; rfl
  | a :: b :: t, q + 1, j, h => by
    have ih := fun j => zw_sw_at (b :: t) q j (by simpa using h)
    show (a :: zw_sw q (b :: t))[j]? = _
    match j with
    | 0 => rw [if_neg (by omega), if_neg (by omega)]; rfl
    | j + 1 =>
      rw [List.getElem?_cons_succ, ih j]
      by_cases z : j = q
      · rw [if_pos z, if_pos (by omega)]; rfl
      · rw [if_neg z, if_neg (show ¬ j + 1 = q + 1 by omega)]
        by_cases y : j = q + 1
        · rw [if_pos y, if_pos (show j + 1 = q + 1 + 1 by omega)]; rfl
        · rw [if_neg y, if_neg (show ¬ j + 1 = q + 1 + 1 by omega)]; rfl
theorem zw_lst_at : ∀ (l : List Nat), 0 < l.length → l[l.length - 1]? = some (zw_lst l)
  | [], h => absurd h (Nat.lt_irrefl _)
  | [a], _ => rfl
  | a :: b :: t, _ => by
    have ih := zw_lst_at (b :: t) (by simp)
    show (a :: b :: t)[(b :: t).length]? = some (zw_lst (b :: t))
    rw [← ih]
    show (a :: b :: t)[t.length + 1]? = (b :: t)[t.length + 1 - 1]?
    rfl
theorem zw_put_at {v : Nat} : ∀ (l : List Nat) (j : Nat), 0 < l.length → (zw_put v l)[j]? = if j + 1 = l.length then some v else l[j]?
  | [], j, h => absurd h (Nat.lt_irrefl _)
  | [a], j, _ => by
    show [v][j]? = _
    match j with
    | 0 => rfl
    | j + 1 => rw [if_neg (by simp)]; rfl
  | a :: b :: t, j, _ => by
    have ih := fun j => zw_put_at (v := v) (b :: t) j (by simp)
    show (a :: zw_put v (b :: t))[j]? = _
    match j with
    | 0 => rw [if_neg (by simp)]; rfl
    | j + 1 =>
      rw [List.getElem?_cons_succ, ih j]
      by_cases z : j + 1 = (b :: t).length
      · rw [if_pos z, if_pos (by simp at z ⊢; omega)]
      · rw [if_neg z, if_neg (by simp at z ⊢; omega)]; rfl
theorem zw_sw_zl {n q : Nat} {r : Nat → Int} (hq : q + 1 < n) : zw_sw q (zl n r) = zl n (f_sw n r q) := by
  have hl : (zl n r).length = n := by simp [zl]
  refine List.ext_getElem? (fun j => ?_)
  rw [zw_sw_at _ _ _ (by rw [hl]; exact hq), zl_at, zl_at, zl_at, zl_at]
  unfold f_sw
  rw [show (if q + 1 = n then 0 else q + 1) = q + 1 from if_neg (by omega)]
  by_cases z : j = q
  · subst z; rw [if_pos rfl, if_pos (by omega), if_pos (by omega), if_pos rfl]
  · rw [if_neg z, if_neg z]
    by_cases y : j = q + 1
    · rw [if_pos y, if_pos (by omega), if_pos (by omega), if_pos y]
    · rw [if_neg y, if_neg y]
theorem zw_end_zl {n : Nat} {r : Nat → Int} (hn : 2 ≤ n) : zw_end (zl n r) = zl n (f_sw n r (n - 1)) := by
  obtain ⟨k, rfl⟩ : ∃ k, n = k + 2 := ⟨n - 2, by omega⟩
  obtain ⟨t, ht⟩ : ∃ t, zl (k + 2) r = (r 0).toNat :: t := by
    refine ⟨(zl (k + 2) r).tail, ?_⟩
    unfold zl
    rw [List.range_succ_eq_map]; rfl
  have hl : t.length = k + 1 := by
    have : (zl (k + 2) r).length = k + 2 := by simp [zl]
    rw [ht] at this
    simpa using this
  have at_ : ∀ j : Nat, t[j]? = if j + 1 < k + 2 then some (r (j + 1)).toNat else none := fun j => by
    have := zl_at (n := k + 2) (o := r) (j := j + 1)
    rw [ht, List.getElem?_cons_succ] at this
    exact this
  have la := zw_lst_at t (by omega)
  rw [hl, at_, if_pos (by omega)] at la
  have la2 : (r (k + 1)).toNat = zw_lst t := by have := Option.some.inj la; rwa [show k + 1 - 1 + 1 = k + 1 by omega] at this
  refine List.ext_getElem? (fun j => ?_)
  rw [ht]
  show (zw_lst t :: zw_put (r 0).toNat t)[j]? = _
  rw [zl_at]
  unfold f_sw
  rw [show k + 2 - 1 = k + 1 by omega, show (if k + 1 + 1 = k + 2 then 0 else k + 1 + 1) = 0 from if_pos rfl]
  match j with
  | 0 =>
    rw [if_pos (by omega), if_neg (by omega), if_pos rfl, la2]; rfl
  | j + 1 =>
    rw [List.getElem?_cons_succ, zw_put_at _ _ (by omega), hl]
    by_cases z : j = k
    · subst z; rw [if_pos rfl, if_pos (by omega), if_pos rfl]
    · rw [if_neg (by omega), at_, if_neg (show ¬ j + 1 = k + 1 by omega), if_neg (show ¬ j + 1 = 0 by omega)]
theorem zw_all_1 {n d : Nat} {l : List Nat} : ∀ p : Nat, (zw_all n d l p).1 = true → zw_L n (zw_end l) ≤ d + 1 ∧ ∀ q : Nat, q < p → zw_L n (zw_sw q l) ≤ d + 1
  | 0, h => ⟨Nat.le_of_ble_eq_true h, fun q hq => absurd hq (Nat.not_lt_zero _)⟩
  | p + 1, h => by
    have h' : (Nat.ble (zw_L n (zw_sw p l)) (Nat.succ d) && (zw_all n d l p).1) = true := h
    rw [Bool.and_eq_true] at h'
    have ih := zw_all_1 p h'.2
    refine ⟨ih.1, fun q hq => ?_⟩
    by_cases z : q = p
    · subst z; exact Nat.le_of_ble_eq_true h'.1
    · exact ih.2 q (by omega)
theorem zw_all_2 {n d : Nat} {l : List Nat} : ∀ p : Nat, (zw_all n d l p).2 = true → zw_L n (zw_end l) + 1 = d ∨ ∃ q : Nat, q < p ∧ zw_L n (zw_sw q l) + 1 = d
  | 0, h => Or.inl (Nat.eq_of_beq_eq_true h)
  | p + 1, h => by
    have h' : (Nat.beq (Nat.succ (zw_L n (zw_sw p l))) d || (zw_all n d l p).2) = true := h
    rw [Bool.or_eq_true] at h'
    rcases h' with h' | h'
    · exact Or.inr ⟨p, by omega, Nat.eq_of_beq_eq_true h'⟩
    · rcases zw_all_2 p h' with z | ⟨q, q1, q2⟩
      · exact Or.inl z
      · exact Or.inr ⟨q, by omega, q2⟩
theorem zw_id_at : ∀ (l : List Nat) (i j a : Nat), zw_id i l = true → l[j]? = some a → a = i + j
  | [], i, j, a, _, h => by simp at h
  | b :: t, i, j, a, e, h => by
    have e' : (bif Nat.beq b i then zw_id (Nat.succ i) t else false) = true := e
    cases hb : Nat.beq b i with
    | false => rw [hb] at e'; cases e'
    | true =>
      rw [hb] at e'
      have e2 : zw_id (Nat.succ i) t = true := e'
      have := Nat.eq_of_beq_eq_true hb
      match j with
      | 0 => have : b = a := by simpa using h
             omega
      | j + 1 => have := zw_id_at t (Nat.succ i) j a e2 (by simpa using h); omega
theorem zw_fin {n : Nat} (hn : 3 ≤ n ∧ n ≤ 7) {r : Nat → Int} (x : isP n r) : zw_L n (zl n r) ≤ 40 ∧ (∀ p : Nat, p < n → zw_L n (zl n (f_sw n r p)) ≤ zw_L n (zl n r) + 1) ∧ (0 < zw_L n (zl n r) → ∃ p : Nat, p < n ∧ zw_L n (zl n (f_sw n r p)) + 1 = zw_L n (zl n r)) ∧ (zw_L n (zl n r) = 0 → ∀ p : Nat, p < n → r p = p) := by
  have ok := zw_every hn x
  have ok' : (Nat.ble (zw_L n (zl n r)) 40 && (bif Nat.beq (zw_L n (zl n r)) 0 then (zw_id 0 (zl n r) && (zw_all n (zw_L n (zl n r)) (zl n r) (Nat.sub n 1)).1) else ((zw_all n (zw_L n (zl n r)) (zl n r) (Nat.sub n 1)).1 && (zw_all n (zw_L n (zl n r)) (zl n r) (Nat.sub n 1)).2))) = true := ok
  rw [Bool.and_eq_true] at ok'
  obtain ⟨k1, k2⟩ := ok'
  have A1 : (zw_all n (zw_L n (zl n r)) (zl n r) (Nat.sub n 1)).1 = true := by
    cases hb : Nat.beq (zw_L n (zl n r)) 0 with
    | true => rw [hb] at k2; exact ((Bool.and_eq_true _ _).mp k2).2
    | false => rw [hb] at k2; exact ((Bool.and_eq_true _ _).mp k2).1
  have a1 := zw_all_1 _ A1
  have sw : ∀ p : Nat, p < n → zl n (f_sw n r p) = if p = n - 1 then zw_end (zl n r) else zw_sw p (zl n r) := fun p hp => by
    by_cases z : p = n - 1
    · rw [if_pos z, z, zw_end_zl (by omega)]
    · rw [if_neg z, zw_sw_zl (by omega)]
  refine ⟨Nat.le_of_ble_eq_true k1, fun p hp => ?_, fun h0 => ?_, fun h0 p hp => ?_⟩
  · rw [sw p hp]
    split
    · exact a1.1
    · exact a1.2 p (by show p < n - 1; omega)
  · have hb : Nat.beq (zw_L n (zl n r)) 0 = false := by
      cases hb : Nat.beq (zw_L n (zl n r)) 0 with
      | false => rfl
      | true => have := Nat.eq_of_beq_eq_true hb; omega
    rw [hb] at k2
    rcases zw_all_2 _ ((Bool.and_eq_true _ _).mp k2).2 with z | ⟨q, q1, q2⟩
    · exact ⟨n - 1, by omega, by rw [sw (n - 1) (by omega), if_pos rfl]; exact z⟩
    · have q1' : q < n - 1 := q1
      exact ⟨q, by omega, by rw [sw q (by omega), if_neg (by omega)]; exact q2⟩
  · have hb : Nat.beq (zw_L n (zl n r)) 0 = true := by rw [h0]; rfl
    rw [hb] at k2
    have := zw_id_at _ 0 p _ ((Bool.and_eq_true _ _).mp k2).1 (by rw [zl_at, if_pos hp])
    have := x.1 p hp
    omega
theorem zw_zero {n : Nat} (hn : 3 ≤ n ∧ n ≤ 7) {r : Nat → Int} (e : ∀ p : Nat, p < n → r p = p) : zw_L n (zl n r) = 0 := by
  have el : zl n r = List.range n := by
    refine List.ext_getElem? (fun j => ?_)
    rw [zl_at]
    by_cases h : j < n
    · rw [if_pos h, e j h]; simp [h]
    · rw [if_neg h]; simp [h]
  rw [el]
  rcases (show n = 3 ∨ n = 4 ∨ n = 5 ∨ n = 6 ∨ n = 7 by omega) with rfl | rfl | rfl | rfl | rfl <;> decide +kernel
/-- how far an order is from its goal -/
def fD (n : Nat) (G : Nat → Int) (o : Nat → Int) : Int := ((zw_L n (zl n (fun p => G (o p).toNat)) : Nat) : Int)
theorem fD_P {n : Nat} {G o : Nat → Int} (g : isP n G) (x : isP n o) : isP n (fun p => G (o p).toNat) := by
  refine ⟨fun p hp => g.1 _ (by have := x.1 p hp; omega), fun p q hp hq e => x.2 p q hp hq ?_⟩
  have a := x.1 p hp
  have b := x.1 q hq
  have := g.2 (o p).toNat (o q).toNat (by omega) (by omega) e
  omega
theorem fD_sw {n : Nat} {G o : Nat → Int} {p : Nat} : (fun j => G (f_sw n o p j).toNat) = f_sw n (fun j => G (o j).toNat) p := by
  funext j
  unfold f_sw
  generalize (if p + 1 = n then 0 else p + 1) = A
  by_cases a : j = p
  · rw [if_pos a, if_pos a]
  · rw [if_neg a, if_neg a]
    by_cases b : j = A
    · rw [if_pos b, if_pos b]
    · rw [if_neg b, if_neg b]
theorem fD_BF {n : Nat} (hn : 3 ≤ n ∧ n ≤ 7) {G : Nat → Int} (g : isP n G) : BF n (fD n G) := by
  refine ⟨fun o o' e => ?_, fun o x => ?_, fun o p x hp => ?_, fun o x h0 => ?_⟩
  · unfold fD
    rw [show zl n (fun p => G (o p).toNat) = zl n (fun p => G (o' p).toNat) from by
      refine List.ext_getElem? (fun j => ?_)
      rw [zl_at, zl_at]
      split
      · rw [e j (by assumption)]
      · rfl]
  · have f := zw_fin hn (fD_P g x)
    unfold fD; omega
  · have f := (zw_fin hn (fD_P g x)).2.1 p hp
    unfold fD; rw [fD_sw]; omega
  · unfold fD at h0
    obtain ⟨p, p1, p2⟩ := (zw_fin hn (fD_P g x)).2.2.1 (by omega)
    refine ⟨p, p1, ?_⟩
    unfold fD; rw [fD_sw]; omega
theorem fD_goal {n : Nat} (hn : 3 ≤ n ∧ n ≤ 7) {G T : Nat → Int} (t : isP n T) (gt : ∀ p : Nat, p < n → G (T p).toNat = p) : fD n G T = 0 := by
  unfold fD; rw [zw_zero hn gt]; rfl
theorem fD_only {n : Nat} (hn : 3 ≤ n ∧ n ≤ 7) {G T o : Nat → Int} (g : isP n G) (t : isP n T) (gt : ∀ p : Nat, p < n → G (T p).toNat = p) (x : isP n o) (h : fD n G o = 0) : ∀ q : Nat, q < n → o q = T q := fun q hq => by
  unfold fD at h
  have e := (zw_fin hn (fD_P g x)).2.2.2 (by omega) q hq
  have a := x.1 q hq
  have b := t.1 q hq
  have := g.2 (o q).toNat (T q).toNat (by omega) (by omega) (by rw [gt q hq]; exact e)
  omega
