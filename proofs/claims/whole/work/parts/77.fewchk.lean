/-! fewest: the class's count, held against every order -/
/-- the ways of a row of places, 32 added -/
def zw_ways : Nat → List Nat → List Nat
  | _, [] => []
  | i, r :: t => Nat.sub (Nat.add r 32) i :: zw_ways (Nat.succ i) t
def zw_max (m : Nat) : List Nat → Nat
  | [] => m
  | w :: t => zw_max (bif Nat.ble w m then m else w) t
def zw_min (m : Nat) : List Nat → Nat
  | [] => m
  | w :: t => zw_min (bif Nat.ble m w then m else w) t
/-- the first v becomes u -/
def zw_one (v u : Nat) : List Nat → List Nat
  | [] => []
  | w :: t => bif Nat.beq w v then u :: t else w :: zw_one v u t
def zw_set (n : Nat) : Nat → List Nat → List Nat
  | 0, l => l
  | k + 1, l => bif Nat.ble (zw_max 0 l) (Nat.add (zw_min 1000 l) n) then l else zw_set n k (zw_one (zw_min 1000 l) (Nat.add (zw_min 1000 l) n) (zw_one (zw_max 0 l) (Nat.sub (zw_max 0 l) n) l))
def zw_q (n a b : Nat) : Nat := bif Nat.ble a b then Nat.div (Nat.sub b a) n else Nat.div (Nat.add (Nat.sub a b) (Nat.sub n 1)) n
def zw_row (n a : Nat) : Nat → List Nat → Nat → Nat
  | _, [], s => s
  | j, w :: t, s => zw_row n a (Nat.succ j) t (Nat.add s (zw_q n a (Nat.add w j)))
def zw_sum (n : Nat) : Nat → List Nat → Nat → Nat
  | _, [], s => s
  | i, w :: t, s => zw_sum n (Nat.succ i) t (zw_row n (Nat.add w i) (Nat.succ i) t s)
def zw_L (n : Nat) (r : List Nat) : Nat := zw_sum n 0 (zw_set n n (zw_ways 0 r)) 0
/-- the neighbours at p change -/
def zw_sw : Nat → List Nat → List Nat
  | _, [] => []
  | _, [a] => [a]
  | 0, a :: b :: t => b :: a :: t
  | p + 1, a :: t => a :: zw_sw p t
def zw_lst : List Nat → Nat
  | [] => 0
  | a :: t => match t with | [] => a | _ :: _ => zw_lst t
def zw_put (v : Nat) : List Nat → List Nat
  | [] => []
  | a :: t => match t with | [] => [v] | _ :: _ => a :: zw_put v t
def zw_end (r : List Nat) : List Nat := match r with | [] => [] | a :: t => zw_lst t :: zw_put a t
/-- all the rows that a change makes -/
def zw_all (n : Nat) (d : Nat) (r : List Nat) : Nat → Bool × Bool
  | 0 => (let e := zw_L n (zw_end r); (Nat.ble e (Nat.succ d), Nat.beq (Nat.succ e) d))
  | p + 1 => (let e := zw_L n (zw_sw p r); let q := zw_all n d r p; (Bool.and (Nat.ble e (Nat.succ d)) q.1, Bool.or (Nat.beq (Nat.succ e) d) q.2))
def zw_id : Nat → List Nat → Bool
  | _, [] => true
  | i, a :: t => bif Nat.beq a i then zw_id (Nat.succ i) t else false
def zw_ok (n : Nat) (r : List Nat) : Bool := (fun d => Bool.and (Nat.ble d 40) (bif Nat.beq d 0 then Bool.and (zw_id 0 r) (zw_all n d r (Nat.sub n 1)).1 else (fun q : Bool × Bool => Bool.and q.1 q.2) (zw_all n d r (Nat.sub n 1)))) (zw_L n r)
/-- v at every place -/
def zw_ins (v : Nat) : List Nat → List (List Nat)
  | [] => [[v]]
  | a :: t => (v :: a :: t) :: (zw_ins v t).map (fun l => a :: l)
def zw_pr : Nat → List (List Nat)
  | 0 => [[]]
  | k + 1 => (zw_pr k).flatMap (zw_ins k)
def zw_ch (n : Nat) : List (List Nat) → Bool
  | [] => true
  | l :: t => Bool.and ((zw_ins (Nat.sub n 1) l).all (zw_ok n)) (zw_ch n t)
theorem zw_ch_td {n : Nat} (k : Nat) : ∀ (l : List (List Nat)), zw_ch n (l.take k) = true → zw_ch n (l.drop k) = true → zw_ch n l = true := by
  induction k with
  | zero => intro l _ h; exact h
  | succ k ih =>
    intro l h1 h2
    cases l with
    | nil => rfl
    | cons a t =>
      rw [List.take_succ_cons] at h1
      rw [List.drop_succ_cons] at h2
      have h1' : ((zw_ins (Nat.sub n 1) a).all (zw_ok n) && zw_ch n (t.take k)) = true := h1
      rw [Bool.and_eq_true] at h1'
      show ((zw_ins (Nat.sub n 1) a).all (zw_ok n) && zw_ch n t) = true
      rw [Bool.and_eq_true]
      exact ⟨h1'.1, ih t h1'.2 h2⟩
theorem zw_3 : zw_ch 3 (zw_pr 2) = true := by decide +kernel
theorem zw_4 : zw_ch 4 (zw_pr 3) = true := by decide +kernel
theorem zw_5 : zw_ch 5 (zw_pr 4) = true := by decide +kernel
theorem zw_6 : zw_ch 6 (zw_pr 5) = true := by decide +kernel
theorem zw_id0 : zw_L 3 [0, 1, 2] = 0 ∧ zw_L 4 [0, 1, 2, 3] = 0 ∧ zw_L 5 [0, 1, 2, 3, 4] = 0 ∧ zw_L 6 [0, 1, 2, 3, 4, 5] = 0 ∧ zw_L 7 [0, 1, 2, 3, 4, 5, 6] = 0 := by decide +kernel
theorem zw_ch_m {n : Nat} : ∀ (l : List (List Nat)), zw_ch n l = true → ∀ r ∈ l.flatMap (zw_ins (Nat.sub n 1)), zw_ok n r = true
  | [], _, r, h => by simp at h
  | a :: t, e, r, h => by
    have e' : ((zw_ins (Nat.sub n 1) a).all (zw_ok n) && zw_ch n t) = true := e
    rw [Bool.and_eq_true] at e'
    rw [List.flatMap_cons, List.mem_append] at h
    rcases h with h | h
    · exact List.all_eq_true.mp e'.1 r h
    · exact zw_ch_m t e'.2 r h
/-- the first n of o -/
def zl (n : Nat) (o : Nat → Int) : List Nat := (List.range n).map (fun p => (o p).toNat)
theorem zw_ins_m {v : Nat} : ∀ (l : List Nat) (q : Nat), q ≤ l.length → l.take q ++ v :: l.drop q ∈ zw_ins v l
  | [], q, h => by
    have : q = 0 := Nat.le_zero.mp h
    subst this; simp [zw_ins]
  | a :: t, 0, _ => by simp [zw_ins]
  | a :: t, q + 1, h => by
    have ih := zw_ins_m (v := v) t q (by simpa using h)
    show a :: (t.take q ++ v :: t.drop q) ∈ (v :: a :: t) :: (zw_ins v t).map (fun l => a :: l)
    exact List.mem_cons_of_mem _ (List.mem_map.mpr ⟨_, ih, rfl⟩)
theorem zl_mem : ∀ (n : Nat) (o : Nat → Int), isP n o → zl n o ∈ zw_pr n
  | 0, o, _ => by simp [zl, zw_pr]
  | n + 1, o, x => by
    obtain ⟨q, hq, eq⟩ := isP_onto x n (by omega)
    have y : isP n (fun p => if p < q then o p else o (p + 1)) := by
      refine ⟨fun p hp => ?_, fun p p' hp hp' e => ?_⟩
      · dsimp only
        split
        · have r := x.1 p (by omega)
          have : o p ≠ n := fun z => by have := x.2 p q (by omega) hq (by rw [z, eq]); omega
          omega
        · have r := x.1 (p + 1) (by omega)
          have : o (p + 1) ≠ n := fun z => by have := x.2 (p + 1) q (by omega) hq (by rw [z, eq]); omega
          omega
      · dsimp only at e
        split at e <;> split at e
        · exact x.2 p p' (by omega) (by omega) e
        · have := x.2 p (p' + 1) (by omega) (by omega) e; omega
        · have := x.2 (p + 1) p' (by omega) (by omega) e; omega
        · have := x.2 (p + 1) (p' + 1) (by omega) (by omega) e; omega
    have ih := zl_mem n _ y
    show zl (n + 1) o ∈ (zw_pr n).flatMap (zw_ins n)
    refine List.mem_flatMap.mpr ⟨_, ih, ?_⟩
    have m := zw_ins_m (v := n) (zl n (fun p => if p < q then o p else o (p + 1))) q (by simp [zl]; omega)
    have e : zl (n + 1) o = (zl n (fun p => if p < q then o p else o (p + 1))).take q ++ n :: (zl n (fun p => if p < q then o p else o (p + 1))).drop q := by
      refine List.ext_getElem? (fun k => ?_)
      unfold zl
      rcases Nat.lt_trichotomy k q with z | z | z
      · rw [List.getElem?_append_left (by simp; omega)]
        simp [List.getElem?_take, z, show k < n + 1 by omega, show k < n by omega]
      · subst z
        rw [List.getElem?_append_right (by simp; omega)]
        simp [hq, eq, Nat.min_eq_left (show k ≤ n by omega)]
      · rw [List.getElem?_append_right (by simp; omega)]
        obtain ⟨j, rfl⟩ : ∃ j, k = q + 1 + j := ⟨k - (q + 1), by omega⟩
        simp only [List.length_take, List.length_map, List.length_range]
        rw [show q + 1 + j - min q n = j + 1 by omega, List.getElem?_cons_succ, List.getElem?_drop]
        by_cases w : q + 1 + j < n + 1
        · simp [w, show q + j < n by omega, show ¬ q + j < q by omega, show q + j + 1 = q + 1 + j by omega]
        · simp [w, show ¬ q + j < n by omega]
    rw [e]; exact m
