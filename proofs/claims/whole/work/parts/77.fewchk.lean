/-! fewest: the class's count, held against every order -/
/-- the ways of a row of places, 32 added -/
def zw_ways : Nat → List Nat → List Nat
  | _, [] => []
  | i, r :: t => Nat.sub (Nat.add r 32) i :: zw_ways (Nat.succ i) t
def zw_max (m : Nat) : List Nat → Nat
  | [] => m
  | w :: t => zw_max (bif Nat.ble w m then m else w) t
def zw_min (m : Nat) : List Nat → Nat
  | [] => m
  | w :: t => zw_min (bif Nat.ble m w then m else w) t
/-- the first v becomes u -/
def zw_one (v u : Nat) : List Nat → List Nat
  | [] => []
  | w :: t => bif Nat.beq w v then u :: t else w :: zw_one v u t
def zw_set (n : Nat) : Nat → List Nat → List Nat
  | 0, l => l
  | k + 1, l => bif Nat.ble (zw_max 0 l) (Nat.add (zw_min 1000 l) n) then l else zw_set n k (zw_one (zw_min 1000 l) (Nat.add (zw_min 1000 l) n) (zw_one (zw_max 0 l) (Nat.sub (zw_max 0 l) n) l))
def zw_q (n a b : Nat) : Nat := bif Nat.ble a b then Nat.div (Nat.sub b a) n else Nat.div (Nat.add (Nat.sub a b) (Nat.sub n 1)) n
def zw_row (n a : Nat) : Nat → List Nat → Nat → Nat
  | _, [], s => s
  | j, w :: t, s => zw_row n a (Nat.succ j) t (Nat.add s (zw_q n a (Nat.add w j)))
def zw_sum (n : Nat) : Nat → List Nat → Nat → Nat
  | _, [], s => s
  | i, w :: t, s => zw_sum n (Nat.succ i) t (zw_row n (Nat.add w i) (Nat.succ i) t s)
def zw_L (n : Nat) (r : List Nat) : Nat := zw_sum n 0 (zw_set n n (zw_ways 0 r)) 0
/-- the neighbours at p change -/
def zw_sw : Nat → List Nat → List Nat
  | _, [] => []
  | _, [a] => [a]
  | 0, a :: b :: t => b :: a :: t
  | p + 1, a :: t => a :: zw_sw p t
def zw_lst : List Nat → Nat
  | [] => 0
  | a :: t => match t with | [] => a | _ :: _ => zw_lst t
def zw_put (v : Nat) : List Nat → List Nat
  | [] => []
  | a :: t => match t with | [] => [v] | _ :: _ => a :: zw_put v t
def zw_end (r : List Nat) : List Nat := match r with | [] => [] | a :: t => zw_lst t :: zw_put a t
/-- all the rows that a change makes -/
def zw_all (n : Nat) (d : Nat) (r : List Nat) : Nat → Bool × Bool
  | 0 => (let e := zw_L n (zw_end r); (Nat.ble e (Nat.succ d), Nat.beq (Nat.succ e) d))
  | p + 1 => (let e := zw_L n (zw_sw p r); let q := zw_all n d r p; (Bool.and (Nat.ble e (Nat.succ d)) q.1, Bool.or (Nat.beq (Nat.succ e) d) q.2))
def zw_ok (n : Nat) (r : List Nat) : Bool := (fun d => Bool.and (Nat.ble d 40) (bif Nat.beq d 0 then (zw_all n d r (Nat.sub n 1)).1 else (fun q : Bool × Bool => Bool.and q.1 q.2) (zw_all n d r (Nat.sub n 1)))) (zw_L n r)
/-- v at every place -/
def zw_ins (v : Nat) : List Nat → List (List Nat)
  | [] => [[v]]
  | a :: t => (v :: a :: t) :: (zw_ins v t).map (fun l => a :: l)
def zw_pr : Nat → List (List Nat)
  | 0 => [[]]
  | k + 1 => (zw_pr k).flatMap (zw_ins k)
def zw_ch (n : Nat) : List (List Nat) → Bool
  | [] => true
  | l :: t => Bool.and ((zw_ins (Nat.sub n 1) l).all (zw_ok n)) (zw_ch n t)
theorem zw_5 : zw_ch 5 (zw_pr 4) = true := by decide +kernel
theorem zw_6 : zw_ch 6 ((zw_pr 5).take 30) = true := by decide +kernel
