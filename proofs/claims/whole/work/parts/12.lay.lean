/-! where the fixed cells are: written by program out of the constructors -/
def LK_ : List Nat := [11, 15, 0, 13, 13, 13, 2, 13, 13, 13, 13, 9, 13, 1, 13, 13, 13, 13, 6, 13, 13, 13, 13, 13, 2, 13, 13, 13, 13, 2, 13, 13, 13, 13, 2, 13, 13, 13, 13, 7, 16, 13, 9, 13, 13, 3, 13, 13, 13, 13, 3, 13, 13, 13, 13, 4, 13, 13, 13, 13, 8, 13, 13, 13, 14, 13, 13, 13, 17, 10, 13, 10, 13, 10, 13, 10, 13, 10, 13, 10, 13, 12, 13, 13, 13, 13, 13, 13, 13, 13, 13, 13, 13, 13, 13, 13, 13, 13, 13, 13, 13, 13, 13, 13, 13, 13, 13, 13, 13, 13, 13, 13, 13, 13, 13, 13, 13, 13, 13, 13, 13, 13, 13, 13, 13, 13]
def LN_ : List Nat := [0, 15, 0, 20, 9, 9, 0, 9, 9, 9, 9, 0, 300, 0, 900, 900, 900, 9, 0, 40, 40, 40, 72, 9, 0, 9, 9, 9, 9, 0, 9, 9, 9, 9, 0, 9, 9, 9, 9, 0, 10, 80, 0, 300, 4, 0, 300, 300, 300, 9, 0, 300, 300, 300, 9, 0, 9, 9, 9, 40, 0, 7, 7, 7, 0, 7, 7, 7, 6, 0, 60, 0, 60, 0, 60, 0, 60, 0, 60, 0, 60, 0, 15, 15, 15, 9, 9, 9, 9, 9, 9, 9, 9, 300, 9, 900, 900, 40, 40, 40, 9, 9, 11, 3300, 80, 5, 5, 300, 300, 9, 9, 9, 7, 7, 5040, 5040, 64, 7, 7, 7, 7, 20, 6, 6, 360, 60]
def LR_ : List (Nat × Nat × Nat) := [(0, 0, 1), (0, 2, 2), (0, 3, 4), (0, 4, 5), (0, 5, 6), (0, 7, 11), (0, 8, 13), (0, 9, 18), (0, 10, 24), (0, 11, 29), (0, 12, 34), (0, 13, 39), (0, 14, 45), (0, 15, 50), (0, 16, 55), (0, 17, 60), (0, 18, 68), (2, 0, 3), (6, 3, 7), (6, 4, 8), (6, 5, 9), (6, 6, 10), (11, 0, 12), (13, 2, 14), (13, 3, 15), (13, 4, 16), (13, 5, 17), (18, 0, 19), (18, 1, 20), (18, 2, 21), (18, 4, 22), (18, 5, 23), (24, 3, 25), (24, 4, 26), (24, 5, 27), (24, 6, 28), (29, 3, 30), (29, 4, 31), (29, 5, 32), (29, 6, 33), (34, 3, 35), (34, 4, 36), (34, 5, 37), (34, 6, 38), (39, 0, 40), (39, 2, 41), (39, 4, 42), (39, 6, 44), (42, 0, 43), (45, 2, 46), (45, 3, 47), (45, 5, 48), (45, 6, 49), (50, 2, 51), (50, 3, 52), (50, 5, 53), (50, 6, 54), (55, 0, 56), (55, 1, 57), (55, 2, 58), (55, 3, 59), (60, 1, 61), (60, 2, 62), (60, 3, 63), (60, 4, 65), (60, 5, 66), (60, 6, 67), (68, 0, 69), (68, 1, 71), (68, 2, 73), (68, 3, 75), (68, 4, 77), (68, 5, 79), (69, 2, 70), (71, 2, 72), (73, 2, 74), (75, 2, 76), (77, 2, 78), (79, 2, 80), (81, 2, 82), (81, 3, 83), (81, 4, 84), (81, 5, 85), (81, 6, 86), (81, 7, 87), (81, 8, 88), (81, 9, 89), (81, 10, 90), (81, 12, 91), (81, 13, 92), (81, 16, 93), (81, 17, 94), (81, 18, 95), (81, 19, 96), (81, 21, 97), (81, 22, 98), (81, 23, 99), (81, 24, 100), (81, 25, 101), (81, 28, 102), (81, 29, 103), (81, 30, 104), (81, 33, 105), (81, 34, 106), (81, 35, 107), (81, 36, 108), (81, 39, 109), (81, 40, 110), (81, 41, 111), (81, 44, 112), (81, 45, 113), (81, 46, 114), (81, 47, 115), (81, 48, 116), (81, 50, 117), (81, 51, 118), (81, 52, 119), (81, 53, 120), (81, 56, 121), (81, 57, 122), (81, 58, 123), (81, 59, 124), (81, 60, 125)]
/-- the fixed cells are as the constructors made them -/
def TK (τ : TT) : Prop := 126 ≤ τ.1 ∧ τ.1 < 900000 ∧ (∀ a k, LK_[a]? = some k → τ.2.1 a = k) ∧ (∀ a n, LN_[a]? = some n → τ.2.2.1 a = n) ∧ (∀ (i : Nat) (q : Nat × Nat × Nat), LR_[i]? = some q → τ.2.2.2 q.1 q.2.1 = some q.2.2)
theorem TK.ob {τ : TT} (hT : TK τ) (a k : Nat) (h : LK_[a]? = some k) : ob_ τ a k := ⟨Nat.lt_of_lt_of_le (List.getElem?_eq_some_iff.mp h).1 hT.1, hT.2.2.1 a k h⟩
theorem TK.ar {τ : TT} (hT : TK τ) (a k n : Nat) (h : LK_[a]? = some k) (h2 : LN_[a]? = some n) (hn : n < 2147483648) : ar_ τ a k n := ⟨Nat.lt_of_lt_of_le (List.getElem?_eq_some_iff.mp h).1 hT.1, hT.2.2.1 a k h, hT.2.2.2.1 a n h2, hn⟩
theorem TK.rf {τ : TT} (hT : TK τ) (i a k v : Nat) (h : LR_[i]? = some (a, k, v)) : τ.2.2.2 a k = some v := hT.2.2.2.2 i _ h
theorem o0 {τ : TT} (hT : TK τ) : ob_ τ 0 11 := hT.ob 0 11 rfl
theorem o1 {τ : TT} (hT : TK τ) : ar_ τ 1 15 15 := hT.ar 1 15 15 rfl rfl (by decide)
theorem o2 {τ : TT} (hT : TK τ) : ob_ τ 2 0 := hT.ob 2 0 rfl
theorem o3 {τ : TT} (hT : TK τ) : ar_ τ 3 13 20 := hT.ar 3 13 20 rfl rfl (by decide)
theorem o4 {τ : TT} (hT : TK τ) : ar_ τ 4 13 9 := hT.ar 4 13 9 rfl rfl (by decide)
theorem o5 {τ : TT} (hT : TK τ) : ar_ τ 5 13 9 := hT.ar 5 13 9 rfl rfl (by decide)
theorem o6 {τ : TT} (hT : TK τ) : ob_ τ 6 2 := hT.ob 6 2 rfl
theorem o7 {τ : TT} (hT : TK τ) : ar_ τ 7 13 9 := hT.ar 7 13 9 rfl rfl (by decide)
theorem o8 {τ : TT} (hT : TK τ) : ar_ τ 8 13 9 := hT.ar 8 13 9 rfl rfl (by decide)
theorem o9 {τ : TT} (hT : TK τ) : ar_ τ 9 13 9 := hT.ar 9 13 9 rfl rfl (by decide)
theorem o10 {τ : TT} (hT : TK τ) : ar_ τ 10 13 9 := hT.ar 10 13 9 rfl rfl (by decide)
theorem o11 {τ : TT} (hT : TK τ) : ob_ τ 11 9 := hT.ob 11 9 rfl
theorem o12 {τ : TT} (hT : TK τ) : ar_ τ 12 13 300 := hT.ar 12 13 300 rfl rfl (by decide)
theorem o13 {τ : TT} (hT : TK τ) : ob_ τ 13 1 := hT.ob 13 1 rfl
theorem o14 {τ : TT} (hT : TK τ) : ar_ τ 14 13 900 := hT.ar 14 13 900 rfl rfl (by decide)
theorem o15 {τ : TT} (hT : TK τ) : ar_ τ 15 13 900 := hT.ar 15 13 900 rfl rfl (by decide)
theorem o16 {τ : TT} (hT : TK τ) : ar_ τ 16 13 900 := hT.ar 16 13 900 rfl rfl (by decide)
theorem o17 {τ : TT} (hT : TK τ) : ar_ τ 17 13 9 := hT.ar 17 13 9 rfl rfl (by decide)
theorem o18 {τ : TT} (hT : TK τ) : ob_ τ 18 6 := hT.ob 18 6 rfl
theorem o19 {τ : TT} (hT : TK τ) : ar_ τ 19 13 40 := hT.ar 19 13 40 rfl rfl (by decide)
theorem o20 {τ : TT} (hT : TK τ) : ar_ τ 20 13 40 := hT.ar 20 13 40 rfl rfl (by decide)
theorem o21 {τ : TT} (hT : TK τ) : ar_ τ 21 13 40 := hT.ar 21 13 40 rfl rfl (by decide)
theorem o22 {τ : TT} (hT : TK τ) : ar_ τ 22 13 72 := hT.ar 22 13 72 rfl rfl (by decide)
theorem o23 {τ : TT} (hT : TK τ) : ar_ τ 23 13 9 := hT.ar 23 13 9 rfl rfl (by decide)
theorem o24 {τ : TT} (hT : TK τ) : ob_ τ 24 2 := hT.ob 24 2 rfl
theorem o25 {τ : TT} (hT : TK τ) : ar_ τ 25 13 9 := hT.ar 25 13 9 rfl rfl (by decide)
theorem o26 {τ : TT} (hT : TK τ) : ar_ τ 26 13 9 := hT.ar 26 13 9 rfl rfl (by decide)
theorem o27 {τ : TT} (hT : TK τ) : ar_ τ 27 13 9 := hT.ar 27 13 9 rfl rfl (by decide)
theorem o28 {τ : TT} (hT : TK τ) : ar_ τ 28 13 9 := hT.ar 28 13 9 rfl rfl (by decide)
theorem o29 {τ : TT} (hT : TK τ) : ob_ τ 29 2 := hT.ob 29 2 rfl
theorem o30 {τ : TT} (hT : TK τ) : ar_ τ 30 13 9 := hT.ar 30 13 9 rfl rfl (by decide)
theorem o31 {τ : TT} (hT : TK τ) : ar_ τ 31 13 9 := hT.ar 31 13 9 rfl rfl (by decide)
theorem o32 {τ : TT} (hT : TK τ) : ar_ τ 32 13 9 := hT.ar 32 13 9 rfl rfl (by decide)
theorem o33 {τ : TT} (hT : TK τ) : ar_ τ 33 13 9 := hT.ar 33 13 9 rfl rfl (by decide)
theorem o34 {τ : TT} (hT : TK τ) : ob_ τ 34 2 := hT.ob 34 2 rfl
theorem o35 {τ : TT} (hT : TK τ) : ar_ τ 35 13 9 := hT.ar 35 13 9 rfl rfl (by decide)
theorem o36 {τ : TT} (hT : TK τ) : ar_ τ 36 13 9 := hT.ar 36 13 9 rfl rfl (by decide)
theorem o37 {τ : TT} (hT : TK τ) : ar_ τ 37 13 9 := hT.ar 37 13 9 rfl rfl (by decide)
theorem o38 {τ : TT} (hT : TK τ) : ar_ τ 38 13 9 := hT.ar 38 13 9 rfl rfl (by decide)
theorem o39 {τ : TT} (hT : TK τ) : ob_ τ 39 7 := hT.ob 39 7 rfl
theorem o40 {τ : TT} (hT : TK τ) : ar_ τ 40 16 10 := hT.ar 40 16 10 rfl rfl (by decide)
theorem o41 {τ : TT} (hT : TK τ) : ar_ τ 41 13 80 := hT.ar 41 13 80 rfl rfl (by decide)
theorem o42 {τ : TT} (hT : TK τ) : ob_ τ 42 9 := hT.ob 42 9 rfl
theorem o43 {τ : TT} (hT : TK τ) : ar_ τ 43 13 300 := hT.ar 43 13 300 rfl rfl (by decide)
theorem o44 {τ : TT} (hT : TK τ) : ar_ τ 44 13 4 := hT.ar 44 13 4 rfl rfl (by decide)
theorem o45 {τ : TT} (hT : TK τ) : ob_ τ 45 3 := hT.ob 45 3 rfl
theorem o46 {τ : TT} (hT : TK τ) : ar_ τ 46 13 300 := hT.ar 46 13 300 rfl rfl (by decide)
theorem o47 {τ : TT} (hT : TK τ) : ar_ τ 47 13 300 := hT.ar 47 13 300 rfl rfl (by decide)
theorem o48 {τ : TT} (hT : TK τ) : ar_ τ 48 13 300 := hT.ar 48 13 300 rfl rfl (by decide)
theorem o49 {τ : TT} (hT : TK τ) : ar_ τ 49 13 9 := hT.ar 49 13 9 rfl rfl (by decide)
theorem o50 {τ : TT} (hT : TK τ) : ob_ τ 50 3 := hT.ob 50 3 rfl
theorem o51 {τ : TT} (hT : TK τ) : ar_ τ 51 13 300 := hT.ar 51 13 300 rfl rfl (by decide)
theorem o52 {τ : TT} (hT : TK τ) : ar_ τ 52 13 300 := hT.ar 52 13 300 rfl rfl (by decide)
theorem o53 {τ : TT} (hT : TK τ) : ar_ τ 53 13 300 := hT.ar 53 13 300 rfl rfl (by decide)
theorem o54 {τ : TT} (hT : TK τ) : ar_ τ 54 13 9 := hT.ar 54 13 9 rfl rfl (by decide)
theorem o55 {τ : TT} (hT : TK τ) : ob_ τ 55 4 := hT.ob 55 4 rfl
theorem o56 {τ : TT} (hT : TK τ) : ar_ τ 56 13 9 := hT.ar 56 13 9 rfl rfl (by decide)
theorem o57 {τ : TT} (hT : TK τ) : ar_ τ 57 13 9 := hT.ar 57 13 9 rfl rfl (by decide)
theorem o58 {τ : TT} (hT : TK τ) : ar_ τ 58 13 9 := hT.ar 58 13 9 rfl rfl (by decide)
theorem o59 {τ : TT} (hT : TK τ) : ar_ τ 59 13 40 := hT.ar 59 13 40 rfl rfl (by decide)
theorem o60 {τ : TT} (hT : TK τ) : ob_ τ 60 8 := hT.ob 60 8 rfl
theorem o61 {τ : TT} (hT : TK τ) : ar_ τ 61 13 7 := hT.ar 61 13 7 rfl rfl (by decide)
theorem o62 {τ : TT} (hT : TK τ) : ar_ τ 62 13 7 := hT.ar 62 13 7 rfl rfl (by decide)
theorem o63 {τ : TT} (hT : TK τ) : ar_ τ 63 13 7 := hT.ar 63 13 7 rfl rfl (by decide)
theorem o64 {τ : TT} (hT : TK τ) : ar_ τ 64 14 0 := hT.ar 64 14 0 rfl rfl (by decide)
theorem o65 {τ : TT} (hT : TK τ) : ar_ τ 65 13 7 := hT.ar 65 13 7 rfl rfl (by decide)
theorem o66 {τ : TT} (hT : TK τ) : ar_ τ 66 13 7 := hT.ar 66 13 7 rfl rfl (by decide)
theorem o67 {τ : TT} (hT : TK τ) : ar_ τ 67 13 7 := hT.ar 67 13 7 rfl rfl (by decide)
theorem o68 {τ : TT} (hT : TK τ) : ar_ τ 68 17 6 := hT.ar 68 17 6 rfl rfl (by decide)
theorem o69 {τ : TT} (hT : TK τ) : ob_ τ 69 10 := hT.ob 69 10 rfl
theorem o70 {τ : TT} (hT : TK τ) : ar_ τ 70 13 60 := hT.ar 70 13 60 rfl rfl (by decide)
theorem o71 {τ : TT} (hT : TK τ) : ob_ τ 71 10 := hT.ob 71 10 rfl
theorem o72 {τ : TT} (hT : TK τ) : ar_ τ 72 13 60 := hT.ar 72 13 60 rfl rfl (by decide)
theorem o73 {τ : TT} (hT : TK τ) : ob_ τ 73 10 := hT.ob 73 10 rfl
theorem o74 {τ : TT} (hT : TK τ) : ar_ τ 74 13 60 := hT.ar 74 13 60 rfl rfl (by decide)
theorem o75 {τ : TT} (hT : TK τ) : ob_ τ 75 10 := hT.ob 75 10 rfl
theorem o76 {τ : TT} (hT : TK τ) : ar_ τ 76 13 60 := hT.ar 76 13 60 rfl rfl (by decide)
theorem o77 {τ : TT} (hT : TK τ) : ob_ τ 77 10 := hT.ob 77 10 rfl
theorem o78 {τ : TT} (hT : TK τ) : ar_ τ 78 13 60 := hT.ar 78 13 60 rfl rfl (by decide)
theorem o79 {τ : TT} (hT : TK τ) : ob_ τ 79 10 := hT.ob 79 10 rfl
theorem o80 {τ : TT} (hT : TK τ) : ar_ τ 80 13 60 := hT.ar 80 13 60 rfl rfl (by decide)
theorem o81 {τ : TT} (hT : TK τ) : ob_ τ 81 12 := hT.ob 81 12 rfl
theorem o82 {τ : TT} (hT : TK τ) : ar_ τ 82 13 15 := hT.ar 82 13 15 rfl rfl (by decide)
theorem o83 {τ : TT} (hT : TK τ) : ar_ τ 83 13 15 := hT.ar 83 13 15 rfl rfl (by decide)
theorem o84 {τ : TT} (hT : TK τ) : ar_ τ 84 13 15 := hT.ar 84 13 15 rfl rfl (by decide)
theorem o85 {τ : TT} (hT : TK τ) : ar_ τ 85 13 9 := hT.ar 85 13 9 rfl rfl (by decide)
theorem o86 {τ : TT} (hT : TK τ) : ar_ τ 86 13 9 := hT.ar 86 13 9 rfl rfl (by decide)
theorem o87 {τ : TT} (hT : TK τ) : ar_ τ 87 13 9 := hT.ar 87 13 9 rfl rfl (by decide)
theorem o88 {τ : TT} (hT : TK τ) : ar_ τ 88 13 9 := hT.ar 88 13 9 rfl rfl (by decide)
theorem o89 {τ : TT} (hT : TK τ) : ar_ τ 89 13 9 := hT.ar 89 13 9 rfl rfl (by decide)
theorem o90 {τ : TT} (hT : TK τ) : ar_ τ 90 13 9 := hT.ar 90 13 9 rfl rfl (by decide)
theorem o91 {τ : TT} (hT : TK τ) : ar_ τ 91 13 9 := hT.ar 91 13 9 rfl rfl (by decide)
theorem o92 {τ : TT} (hT : TK τ) : ar_ τ 92 13 9 := hT.ar 92 13 9 rfl rfl (by decide)
theorem o93 {τ : TT} (hT : TK τ) : ar_ τ 93 13 300 := hT.ar 93 13 300 rfl rfl (by decide)
theorem o94 {τ : TT} (hT : TK τ) : ar_ τ 94 13 9 := hT.ar 94 13 9 rfl rfl (by decide)
theorem o95 {τ : TT} (hT : TK τ) : ar_ τ 95 13 900 := hT.ar 95 13 900 rfl rfl (by decide)
theorem o96 {τ : TT} (hT : TK τ) : ar_ τ 96 13 900 := hT.ar 96 13 900 rfl rfl (by decide)
theorem o97 {τ : TT} (hT : TK τ) : ar_ τ 97 13 40 := hT.ar 97 13 40 rfl rfl (by decide)
theorem o98 {τ : TT} (hT : TK τ) : ar_ τ 98 13 40 := hT.ar 98 13 40 rfl rfl (by decide)
theorem o99 {τ : TT} (hT : TK τ) : ar_ τ 99 13 40 := hT.ar 99 13 40 rfl rfl (by decide)
theorem o100 {τ : TT} (hT : TK τ) : ar_ τ 100 13 9 := hT.ar 100 13 9 rfl rfl (by decide)
theorem o101 {τ : TT} (hT : TK τ) : ar_ τ 101 13 9 := hT.ar 101 13 9 rfl rfl (by decide)
theorem o102 {τ : TT} (hT : TK τ) : ar_ τ 102 13 11 := hT.ar 102 13 11 rfl rfl (by decide)
theorem o103 {τ : TT} (hT : TK τ) : ar_ τ 103 13 3300 := hT.ar 103 13 3300 rfl rfl (by decide)
theorem o104 {τ : TT} (hT : TK τ) : ar_ τ 104 13 80 := hT.ar 104 13 80 rfl rfl (by decide)
theorem o105 {τ : TT} (hT : TK τ) : ar_ τ 105 13 5 := hT.ar 105 13 5 rfl rfl (by decide)
theorem o106 {τ : TT} (hT : TK τ) : ar_ τ 106 13 5 := hT.ar 106 13 5 rfl rfl (by decide)
theorem o107 {τ : TT} (hT : TK τ) : ar_ τ 107 13 300 := hT.ar 107 13 300 rfl rfl (by decide)
theorem o108 {τ : TT} (hT : TK τ) : ar_ τ 108 13 300 := hT.ar 108 13 300 rfl rfl (by decide)
theorem o109 {τ : TT} (hT : TK τ) : ar_ τ 109 13 9 := hT.ar 109 13 9 rfl rfl (by decide)
theorem o110 {τ : TT} (hT : TK τ) : ar_ τ 110 13 9 := hT.ar 110 13 9 rfl rfl (by decide)
theorem o111 {τ : TT} (hT : TK τ) : ar_ τ 111 13 9 := hT.ar 111 13 9 rfl rfl (by decide)
theorem o112 {τ : TT} (hT : TK τ) : ar_ τ 112 13 7 := hT.ar 112 13 7 rfl rfl (by decide)
theorem o113 {τ : TT} (hT : TK τ) : ar_ τ 113 13 7 := hT.ar 113 13 7 rfl rfl (by decide)
theorem o114 {τ : TT} (hT : TK τ) : ar_ τ 114 13 5040 := hT.ar 114 13 5040 rfl rfl (by decide)
theorem o115 {τ : TT} (hT : TK τ) : ar_ τ 115 13 5040 := hT.ar 115 13 5040 rfl rfl (by decide)
theorem o116 {τ : TT} (hT : TK τ) : ar_ τ 116 13 64 := hT.ar 116 13 64 rfl rfl (by decide)
theorem o117 {τ : TT} (hT : TK τ) : ar_ τ 117 13 7 := hT.ar 117 13 7 rfl rfl (by decide)
theorem o118 {τ : TT} (hT : TK τ) : ar_ τ 118 13 7 := hT.ar 118 13 7 rfl rfl (by decide)
theorem o119 {τ : TT} (hT : TK τ) : ar_ τ 119 13 7 := hT.ar 119 13 7 rfl rfl (by decide)
theorem o120 {τ : TT} (hT : TK τ) : ar_ τ 120 13 7 := hT.ar 120 13 7 rfl rfl (by decide)
theorem o121 {τ : TT} (hT : TK τ) : ar_ τ 121 13 20 := hT.ar 121 13 20 rfl rfl (by decide)
theorem o122 {τ : TT} (hT : TK τ) : ar_ τ 122 13 6 := hT.ar 122 13 6 rfl rfl (by decide)
theorem o123 {τ : TT} (hT : TK τ) : ar_ τ 123 13 6 := hT.ar 123 13 6 rfl rfl (by decide)
theorem o124 {τ : TT} (hT : TK τ) : ar_ τ 124 13 360 := hT.ar 124 13 360 rfl rfl (by decide)
theorem o125 {τ : TT} (hT : TK τ) : ar_ τ 125 13 60 := hT.ar 125 13 60 rfl rfl (by decide)
theorem r0_0 {τ : TT} (hT : TK τ) : τ.2.2.2 0 0 = some 1 := hT.rf 0 0 0 1 rfl
theorem r0_2 {τ : TT} (hT : TK τ) : τ.2.2.2 0 2 = some 2 := hT.rf 1 0 2 2 rfl
theorem r0_3 {τ : TT} (hT : TK τ) : τ.2.2.2 0 3 = some 4 := hT.rf 2 0 3 4 rfl
theorem r0_4 {τ : TT} (hT : TK τ) : τ.2.2.2 0 4 = some 5 := hT.rf 3 0 4 5 rfl
theorem r0_5 {τ : TT} (hT : TK τ) : τ.2.2.2 0 5 = some 6 := hT.rf 4 0 5 6 rfl
theorem r0_7 {τ : TT} (hT : TK τ) : τ.2.2.2 0 7 = some 11 := hT.rf 5 0 7 11 rfl
theorem r0_8 {τ : TT} (hT : TK τ) : τ.2.2.2 0 8 = some 13 := hT.rf 6 0 8 13 rfl
theorem r0_9 {τ : TT} (hT : TK τ) : τ.2.2.2 0 9 = some 18 := hT.rf 7 0 9 18 rfl
theorem r0_10 {τ : TT} (hT : TK τ) : τ.2.2.2 0 10 = some 24 := hT.rf 8 0 10 24 rfl
theorem r0_11 {τ : TT} (hT : TK τ) : τ.2.2.2 0 11 = some 29 := hT.rf 9 0 11 29 rfl
theorem r0_12 {τ : TT} (hT : TK τ) : τ.2.2.2 0 12 = some 34 := hT.rf 10 0 12 34 rfl
theorem r0_13 {τ : TT} (hT : TK τ) : τ.2.2.2 0 13 = some 39 := hT.rf 11 0 13 39 rfl
theorem r0_14 {τ : TT} (hT : TK τ) : τ.2.2.2 0 14 = some 45 := hT.rf 12 0 14 45 rfl
theorem r0_15 {τ : TT} (hT : TK τ) : τ.2.2.2 0 15 = some 50 := hT.rf 13 0 15 50 rfl
theorem r0_16 {τ : TT} (hT : TK τ) : τ.2.2.2 0 16 = some 55 := hT.rf 14 0 16 55 rfl
theorem r0_17 {τ : TT} (hT : TK τ) : τ.2.2.2 0 17 = some 60 := hT.rf 15 0 17 60 rfl
theorem r0_18 {τ : TT} (hT : TK τ) : τ.2.2.2 0 18 = some 68 := hT.rf 16 0 18 68 rfl
theorem r2_0 {τ : TT} (hT : TK τ) : τ.2.2.2 2 0 = some 3 := hT.rf 17 2 0 3 rfl
theorem r6_3 {τ : TT} (hT : TK τ) : τ.2.2.2 6 3 = some 7 := hT.rf 18 6 3 7 rfl
theorem r6_4 {τ : TT} (hT : TK τ) : τ.2.2.2 6 4 = some 8 := hT.rf 19 6 4 8 rfl
theorem r6_5 {τ : TT} (hT : TK τ) : τ.2.2.2 6 5 = some 9 := hT.rf 20 6 5 9 rfl
theorem r6_6 {τ : TT} (hT : TK τ) : τ.2.2.2 6 6 = some 10 := hT.rf 21 6 6 10 rfl
theorem r11_0 {τ : TT} (hT : TK τ) : τ.2.2.2 11 0 = some 12 := hT.rf 22 11 0 12 rfl
theorem r13_2 {τ : TT} (hT : TK τ) : τ.2.2.2 13 2 = some 14 := hT.rf 23 13 2 14 rfl
theorem r13_3 {τ : TT} (hT : TK τ) : τ.2.2.2 13 3 = some 15 := hT.rf 24 13 3 15 rfl
theorem r13_4 {τ : TT} (hT : TK τ) : τ.2.2.2 13 4 = some 16 := hT.rf 25 13 4 16 rfl
theorem r13_5 {τ : TT} (hT : TK τ) : τ.2.2.2 13 5 = some 17 := hT.rf 26 13 5 17 rfl
theorem r18_0 {τ : TT} (hT : TK τ) : τ.2.2.2 18 0 = some 19 := hT.rf 27 18 0 19 rfl
theorem r18_1 {τ : TT} (hT : TK τ) : τ.2.2.2 18 1 = some 20 := hT.rf 28 18 1 20 rfl
theorem r18_2 {τ : TT} (hT : TK τ) : τ.2.2.2 18 2 = some 21 := hT.rf 29 18 2 21 rfl
theorem r18_4 {τ : TT} (hT : TK τ) : τ.2.2.2 18 4 = some 22 := hT.rf 30 18 4 22 rfl
theorem r18_5 {τ : TT} (hT : TK τ) : τ.2.2.2 18 5 = some 23 := hT.rf 31 18 5 23 rfl
theorem r24_3 {τ : TT} (hT : TK τ) : τ.2.2.2 24 3 = some 25 := hT.rf 32 24 3 25 rfl
theorem r24_4 {τ : TT} (hT : TK τ) : τ.2.2.2 24 4 = some 26 := hT.rf 33 24 4 26 rfl
theorem r24_5 {τ : TT} (hT : TK τ) : τ.2.2.2 24 5 = some 27 := hT.rf 34 24 5 27 rfl
theorem r24_6 {τ : TT} (hT : TK τ) : τ.2.2.2 24 6 = some 28 := hT.rf 35 24 6 28 rfl
theorem r29_3 {τ : TT} (hT : TK τ) : τ.2.2.2 29 3 = some 30 := hT.rf 36 29 3 30 rfl
theorem r29_4 {τ : TT} (hT : TK τ) : τ.2.2.2 29 4 = some 31 := hT.rf 37 29 4 31 rfl
theorem r29_5 {τ : TT} (hT : TK τ) : τ.2.2.2 29 5 = some 32 := hT.rf 38 29 5 32 rfl
theorem r29_6 {τ : TT} (hT : TK τ) : τ.2.2.2 29 6 = some 33 := hT.rf 39 29 6 33 rfl
theorem r34_3 {τ : TT} (hT : TK τ) : τ.2.2.2 34 3 = some 35 := hT.rf 40 34 3 35 rfl
theorem r34_4 {τ : TT} (hT : TK τ) : τ.2.2.2 34 4 = some 36 := hT.rf 41 34 4 36 rfl
theorem r34_5 {τ : TT} (hT : TK τ) : τ.2.2.2 34 5 = some 37 := hT.rf 42 34 5 37 rfl
theorem r34_6 {τ : TT} (hT : TK τ) : τ.2.2.2 34 6 = some 38 := hT.rf 43 34 6 38 rfl
theorem r39_0 {τ : TT} (hT : TK τ) : τ.2.2.2 39 0 = some 40 := hT.rf 44 39 0 40 rfl
theorem r39_2 {τ : TT} (hT : TK τ) : τ.2.2.2 39 2 = some 41 := hT.rf 45 39 2 41 rfl
theorem r39_4 {τ : TT} (hT : TK τ) : τ.2.2.2 39 4 = some 42 := hT.rf 46 39 4 42 rfl
theorem r39_6 {τ : TT} (hT : TK τ) : τ.2.2.2 39 6 = some 44 := hT.rf 47 39 6 44 rfl
theorem r42_0 {τ : TT} (hT : TK τ) : τ.2.2.2 42 0 = some 43 := hT.rf 48 42 0 43 rfl
theorem r45_2 {τ : TT} (hT : TK τ) : τ.2.2.2 45 2 = some 46 := hT.rf 49 45 2 46 rfl
theorem r45_3 {τ : TT} (hT : TK τ) : τ.2.2.2 45 3 = some 47 := hT.rf 50 45 3 47 rfl
theorem r45_5 {τ : TT} (hT : TK τ) : τ.2.2.2 45 5 = some 48 := hT.rf 51 45 5 48 rfl
theorem r45_6 {τ : TT} (hT : TK τ) : τ.2.2.2 45 6 = some 49 := hT.rf 52 45 6 49 rfl
theorem r50_2 {τ : TT} (hT : TK τ) : τ.2.2.2 50 2 = some 51 := hT.rf 53 50 2 51 rfl
theorem r50_3 {τ : TT} (hT : TK τ) : τ.2.2.2 50 3 = some 52 := hT.rf 54 50 3 52 rfl
theorem r50_5 {τ : TT} (hT : TK τ) : τ.2.2.2 50 5 = some 53 := hT.rf 55 50 5 53 rfl
theorem r50_6 {τ : TT} (hT : TK τ) : τ.2.2.2 50 6 = some 54 := hT.rf 56 50 6 54 rfl
theorem r55_0 {τ : TT} (hT : TK τ) : τ.2.2.2 55 0 = some 56 := hT.rf 57 55 0 56 rfl
theorem r55_1 {τ : TT} (hT : TK τ) : τ.2.2.2 55 1 = some 57 := hT.rf 58 55 1 57 rfl
theorem r55_2 {τ : TT} (hT : TK τ) : τ.2.2.2 55 2 = some 58 := hT.rf 59 55 2 58 rfl
theorem r55_3 {τ : TT} (hT : TK τ) : τ.2.2.2 55 3 = some 59 := hT.rf 60 55 3 59 rfl
theorem r60_1 {τ : TT} (hT : TK τ) : τ.2.2.2 60 1 = some 61 := hT.rf 61 60 1 61 rfl
theorem r60_2 {τ : TT} (hT : TK τ) : τ.2.2.2 60 2 = some 62 := hT.rf 62 60 2 62 rfl
theorem r60_3 {τ : TT} (hT : TK τ) : τ.2.2.2 60 3 = some 63 := hT.rf 63 60 3 63 rfl
theorem r60_4 {τ : TT} (hT : TK τ) : τ.2.2.2 60 4 = some 65 := hT.rf 64 60 4 65 rfl
theorem r60_5 {τ : TT} (hT : TK τ) : τ.2.2.2 60 5 = some 66 := hT.rf 65 60 5 66 rfl
theorem r60_6 {τ : TT} (hT : TK τ) : τ.2.2.2 60 6 = some 67 := hT.rf 66 60 6 67 rfl
theorem r68_0 {τ : TT} (hT : TK τ) : τ.2.2.2 68 0 = some 69 := hT.rf 67 68 0 69 rfl
theorem r68_1 {τ : TT} (hT : TK τ) : τ.2.2.2 68 1 = some 71 := hT.rf 68 68 1 71 rfl
theorem r68_2 {τ : TT} (hT : TK τ) : τ.2.2.2 68 2 = some 73 := hT.rf 69 68 2 73 rfl
theorem r68_3 {τ : TT} (hT : TK τ) : τ.2.2.2 68 3 = some 75 := hT.rf 70 68 3 75 rfl
theorem r68_4 {τ : TT} (hT : TK τ) : τ.2.2.2 68 4 = some 77 := hT.rf 71 68 4 77 rfl
theorem r68_5 {τ : TT} (hT : TK τ) : τ.2.2.2 68 5 = some 79 := hT.rf 72 68 5 79 rfl
theorem r69_2 {τ : TT} (hT : TK τ) : τ.2.2.2 69 2 = some 70 := hT.rf 73 69 2 70 rfl
theorem r71_2 {τ : TT} (hT : TK τ) : τ.2.2.2 71 2 = some 72 := hT.rf 74 71 2 72 rfl
theorem r73_2 {τ : TT} (hT : TK τ) : τ.2.2.2 73 2 = some 74 := hT.rf 75 73 2 74 rfl
theorem r75_2 {τ : TT} (hT : TK τ) : τ.2.2.2 75 2 = some 76 := hT.rf 76 75 2 76 rfl
theorem r77_2 {τ : TT} (hT : TK τ) : τ.2.2.2 77 2 = some 78 := hT.rf 77 77 2 78 rfl
theorem r79_2 {τ : TT} (hT : TK τ) : τ.2.2.2 79 2 = some 80 := hT.rf 78 79 2 80 rfl
theorem r81_2 {τ : TT} (hT : TK τ) : τ.2.2.2 81 2 = some 82 := hT.rf 79 81 2 82 rfl
theorem r81_3 {τ : TT} (hT : TK τ) : τ.2.2.2 81 3 = some 83 := hT.rf 80 81 3 83 rfl
theorem r81_4 {τ : TT} (hT : TK τ) : τ.2.2.2 81 4 = some 84 := hT.rf 81 81 4 84 rfl
theorem r81_5 {τ : TT} (hT : TK τ) : τ.2.2.2 81 5 = some 85 := hT.rf 82 81 5 85 rfl
theorem r81_6 {τ : TT} (hT : TK τ) : τ.2.2.2 81 6 = some 86 := hT.rf 83 81 6 86 rfl
theorem r81_7 {τ : TT} (hT : TK τ) : τ.2.2.2 81 7 = some 87 := hT.rf 84 81 7 87 rfl
theorem r81_8 {τ : TT} (hT : TK τ) : τ.2.2.2 81 8 = some 88 := hT.rf 85 81 8 88 rfl
theorem r81_9 {τ : TT} (hT : TK τ) : τ.2.2.2 81 9 = some 89 := hT.rf 86 81 9 89 rfl
theorem r81_10 {τ : TT} (hT : TK τ) : τ.2.2.2 81 10 = some 90 := hT.rf 87 81 10 90 rfl
theorem r81_12 {τ : TT} (hT : TK τ) : τ.2.2.2 81 12 = some 91 := hT.rf 88 81 12 91 rfl
theorem r81_13 {τ : TT} (hT : TK τ) : τ.2.2.2 81 13 = some 92 := hT.rf 89 81 13 92 rfl
theorem r81_16 {τ : TT} (hT : TK τ) : τ.2.2.2 81 16 = some 93 := hT.rf 90 81 16 93 rfl
theorem r81_17 {τ : TT} (hT : TK τ) : τ.2.2.2 81 17 = some 94 := hT.rf 91 81 17 94 rfl
theorem r81_18 {τ : TT} (hT : TK τ) : τ.2.2.2 81 18 = some 95 := hT.rf 92 81 18 95 rfl
theorem r81_19 {τ : TT} (hT : TK τ) : τ.2.2.2 81 19 = some 96 := hT.rf 93 81 19 96 rfl
theorem r81_21 {τ : TT} (hT : TK τ) : τ.2.2.2 81 21 = some 97 := hT.rf 94 81 21 97 rfl
theorem r81_22 {τ : TT} (hT : TK τ) : τ.2.2.2 81 22 = some 98 := hT.rf 95 81 22 98 rfl
theorem r81_23 {τ : TT} (hT : TK τ) : τ.2.2.2 81 23 = some 99 := hT.rf 96 81 23 99 rfl
theorem r81_24 {τ : TT} (hT : TK τ) : τ.2.2.2 81 24 = some 100 := hT.rf 97 81 24 100 rfl
theorem r81_25 {τ : TT} (hT : TK τ) : τ.2.2.2 81 25 = some 101 := hT.rf 98 81 25 101 rfl
theorem r81_28 {τ : TT} (hT : TK τ) : τ.2.2.2 81 28 = some 102 := hT.rf 99 81 28 102 rfl
theorem r81_29 {τ : TT} (hT : TK τ) : τ.2.2.2 81 29 = some 103 := hT.rf 100 81 29 103 rfl
theorem r81_30 {τ : TT} (hT : TK τ) : τ.2.2.2 81 30 = some 104 := hT.rf 101 81 30 104 rfl
theorem r81_33 {τ : TT} (hT : TK τ) : τ.2.2.2 81 33 = some 105 := hT.rf 102 81 33 105 rfl
theorem r81_34 {τ : TT} (hT : TK τ) : τ.2.2.2 81 34 = some 106 := hT.rf 103 81 34 106 rfl
theorem r81_35 {τ : TT} (hT : TK τ) : τ.2.2.2 81 35 = some 107 := hT.rf 104 81 35 107 rfl
theorem r81_36 {τ : TT} (hT : TK τ) : τ.2.2.2 81 36 = some 108 := hT.rf 105 81 36 108 rfl
theorem r81_39 {τ : TT} (hT : TK τ) : τ.2.2.2 81 39 = some 109 := hT.rf 106 81 39 109 rfl
theorem r81_40 {τ : TT} (hT : TK τ) : τ.2.2.2 81 40 = some 110 := hT.rf 107 81 40 110 rfl
theorem r81_41 {τ : TT} (hT : TK τ) : τ.2.2.2 81 41 = some 111 := hT.rf 108 81 41 111 rfl
theorem r81_44 {τ : TT} (hT : TK τ) : τ.2.2.2 81 44 = some 112 := hT.rf 109 81 44 112 rfl
theorem r81_45 {τ : TT} (hT : TK τ) : τ.2.2.2 81 45 = some 113 := hT.rf 110 81 45 113 rfl
theorem r81_46 {τ : TT} (hT : TK τ) : τ.2.2.2 81 46 = some 114 := hT.rf 111 81 46 114 rfl
theorem r81_47 {τ : TT} (hT : TK τ) : τ.2.2.2 81 47 = some 115 := hT.rf 112 81 47 115 rfl
theorem r81_48 {τ : TT} (hT : TK τ) : τ.2.2.2 81 48 = some 116 := hT.rf 113 81 48 116 rfl
theorem r81_50 {τ : TT} (hT : TK τ) : τ.2.2.2 81 50 = some 117 := hT.rf 114 81 50 117 rfl
theorem r81_51 {τ : TT} (hT : TK τ) : τ.2.2.2 81 51 = some 118 := hT.rf 115 81 51 118 rfl
theorem r81_52 {τ : TT} (hT : TK τ) : τ.2.2.2 81 52 = some 119 := hT.rf 116 81 52 119 rfl
theorem r81_53 {τ : TT} (hT : TK τ) : τ.2.2.2 81 53 = some 120 := hT.rf 117 81 53 120 rfl
theorem r81_56 {τ : TT} (hT : TK τ) : τ.2.2.2 81 56 = some 121 := hT.rf 118 81 56 121 rfl
theorem r81_57 {τ : TT} (hT : TK τ) : τ.2.2.2 81 57 = some 122 := hT.rf 119 81 57 122 rfl
theorem r81_58 {τ : TT} (hT : TK τ) : τ.2.2.2 81 58 = some 123 := hT.rf 120 81 58 123 rfl
theorem r81_59 {τ : TT} (hT : TK τ) : τ.2.2.2 81 59 = some 124 := hT.rf 121 81 59 124 rfl
theorem r81_60 {τ : TT} (hT : TK τ) : τ.2.2.2 81 60 = some 125 := hT.rf 122 81 60 125 rfl
/-- a Floor, a row of Steps, a Form, a Tape at a cell -/
def FL (τ : TT) (a : Nat) : Prop := ob_ τ a 2 ∧ ar_ τ (a + 1) 13 9 ∧ ar_ τ (a + 2) 13 9 ∧ ar_ τ (a + 3) 13 9 ∧ ar_ τ (a + 4) 13 9 ∧ τ.2.2.2 a 3 = some (a + 1) ∧ τ.2.2.2 a 4 = some (a + 2) ∧ τ.2.2.2 a 5 = some (a + 3) ∧ τ.2.2.2 a 6 = some (a + 4)
def ST (τ : TT) (a n : Nat) : Prop := ob_ τ a 9 ∧ ar_ τ (a + 1) 13 n ∧ τ.2.2.2 a 0 = some (a + 1)
def FM (τ : TT) (a : Nat) : Prop := ob_ τ a 3 ∧ ar_ τ (a + 1) 13 300 ∧ ar_ τ (a + 2) 13 300 ∧ ar_ τ (a + 3) 13 300 ∧ ar_ τ (a + 4) 13 9 ∧ τ.2.2.2 a 2 = some (a + 1) ∧ τ.2.2.2 a 3 = some (a + 2) ∧ τ.2.2.2 a 5 = some (a + 3) ∧ τ.2.2.2 a 6 = some (a + 4)
def TP (τ : TT) (a : Nat) : Prop := ob_ τ a 10 ∧ ar_ τ (a + 1) 13 60 ∧ τ.2.2.2 a 2 = some (a + 1)
theorem fl6 {τ : TT} (hT : TK τ) : FL τ 6 := ⟨o6 hT, o7 hT, o8 hT, o9 hT, o10 hT, r6_3 hT, r6_4 hT, r6_5 hT, r6_6 hT⟩
theorem fl24 {τ : TT} (hT : TK τ) : FL τ 24 := ⟨o24 hT, o25 hT, o26 hT, o27 hT, o28 hT, r24_3 hT, r24_4 hT, r24_5 hT, r24_6 hT⟩
theorem fl29 {τ : TT} (hT : TK τ) : FL τ 29 := ⟨o29 hT, o30 hT, o31 hT, o32 hT, o33 hT, r29_3 hT, r29_4 hT, r29_5 hT, r29_6 hT⟩
theorem fl34 {τ : TT} (hT : TK τ) : FL τ 34 := ⟨o34 hT, o35 hT, o36 hT, o37 hT, o38 hT, r34_3 hT, r34_4 hT, r34_5 hT, r34_6 hT⟩
theorem st11 {τ : TT} (hT : TK τ) : ST τ 11 300 := ⟨o11 hT, o12 hT, r11_0 hT⟩
theorem st42 {τ : TT} (hT : TK τ) : ST τ 42 300 := ⟨o42 hT, o43 hT, r42_0 hT⟩
theorem fm45 {τ : TT} (hT : TK τ) : FM τ 45 := ⟨o45 hT, o46 hT, o47 hT, o48 hT, o49 hT, r45_2 hT, r45_3 hT, r45_5 hT, r45_6 hT⟩
theorem fm50 {τ : TT} (hT : TK τ) : FM τ 50 := ⟨o50 hT, o51 hT, o52 hT, o53 hT, o54 hT, r50_2 hT, r50_3 hT, r50_5 hT, r50_6 hT⟩
theorem tp69 {τ : TT} (hT : TK τ) : TP τ 69 := ⟨o69 hT, o70 hT, r69_2 hT⟩
theorem tp71 {τ : TT} (hT : TK τ) : TP τ 71 := ⟨o71 hT, o72 hT, r71_2 hT⟩
theorem tp73 {τ : TT} (hT : TK τ) : TP τ 73 := ⟨o73 hT, o74 hT, r73_2 hT⟩
theorem tp75 {τ : TT} (hT : TK τ) : TP τ 75 := ⟨o75 hT, o76 hT, r75_2 hT⟩
theorem tp77 {τ : TT} (hT : TK τ) : TP τ 77 := ⟨o77 hT, o78 hT, r77_2 hT⟩
theorem tp79 {τ : TT} (hT : TK τ) : TP τ 79 := ⟨o79 hT, o80 hT, r79_2 hT⟩
theorem S_go {M : MT} {d bc bs k : Nat} {as : List AV} {ls : List (Option AV)} {τ : TT} {h : HT} {Z : ZT} (hy : plainName M.2.2.2.2.cls = true) (hown : M.2.2.2.2.cls = M.2.1) (hn : as.length ≤ M.2.2.1) (hl : as.map some ++ List.replicate k none = ls) (g : G_ M d bc bs 0 ls [] τ h Z) : S_ M d bc bs as τ h Z := by
  refine S_ofG hy hown hn (G_lsub (ls' := ls) (fun i v hi => ?_) g)
  rw [← hl] at hi
  by_cases hc : i < (as.map some).length
  · rwa [List.getElem?_append_left hc] at hi
  · rw [List.getElem?_append_right (by omega)] at hi
    rw [List.getElem?_replicate] at hi
    split at hi <;> simp at hi
section GB
variable {M : MT} {d bc bs pc : Nat} {ls : List (Option AV)} {st : List AV} {τ : TT} {h : HT} {Z : ZT}
theorem G_ifb_ne {P : Prop} [Decidable P] {off : Int} {tgt : Nat} (hd : decode M.1 pc = .ok (.ifCond .ne off, 3)) (ht : (pc : Int) + off = (tgt : Int)) (kt : P → G_ M d bc bs tgt ls st τ h Z) (kf : ¬ P → G_ M d bc bs (pc + 3) ls st τ h Z) : G_ M d bc bs pc ls (.inl (if P then 1 else 0) :: st) τ h Z := by
  by_cases hp : P
  · rw [if_pos hp]
    exact G_if_ne hd ht (by decide) (fun _ => kt hp) (fun q => absurd q (by decide))
  · rw [if_neg hp]
    exact G_if_ne hd ht (by decide) (fun q => absurd rfl q) (fun _ => kf hp)
theorem G_ifb_eq {P : Prop} [Decidable P] {off : Int} {tgt : Nat} (hd : decode M.1 pc = .ok (.ifCond .eq off, 3)) (ht : (pc : Int) + off = (tgt : Int)) (kt : ¬ P → G_ M d bc bs tgt ls st τ h Z) (kf : P → G_ M d bc bs (pc + 3) ls st τ h Z) : G_ M d bc bs pc ls (.inl (if P then 1 else 0) :: st) τ h Z := by
  by_cases hp : P
  · rw [if_pos hp]
    exact G_if_eq hd ht (by decide) (fun q => absurd q (by decide)) (fun _ => kf hp)
  · rw [if_neg hp]
    exact G_if_eq hd ht (by decide) (fun _ => kt hp) (fun q => absurd rfl q)
end GB
theorem b01 {P : Prop} [Decidable P] : (if P then (1 : Int) else 0) = 0 ∨ (if P then (1 : Int) else 0) = 1 := by
  by_cases h : P
  · exact Or.inr (if_pos h)
  · exact Or.inl (if_neg h)
