/-! what holds of the reference between calls -/
/-- a step's number: 10 p and 0 or 1 (p 0 .. 9), 100, 101 -/
def f_okc (s : Int) : Prop := (0 ≤ s ∧ s ≤ 99 ∧ (s.tmod 10 = 0 ∨ s.tmod 10 = 1)) ∨ s = 100 ∨ s = 101
def MI (h : HT) : Prop := (0 ≤ h 81 0 ∧ h 81 0 ≤ 15) ∧ (h 81 1 = 0 ∨ (3 ≤ h 81 1 ∧ h 81 1 ≤ 9)) ∧ (h 81 11 = 0 ∨ (h 81 11 = 1 ∧ 3 ≤ h 81 1)) ∧ (0 ≤ h 81 14 ∧ h 81 14 ≤ 300) ∧ (0 ≤ h 81 15 ∧ h 81 15 ≤ 100) ∧ (0 ≤ h 81 20 ∧ h 81 20 ≤ 40) ∧ (0 ≤ h 81 26 ∧ h 81 26 ≤ 10) ∧ (0 ≤ h 81 27 ∧ h 81 27 ≤ 80) ∧ (0 ≤ h 81 55 ∧ h 81 55 ≤ 100) ∧ (∀ k : Nat, k < 15 → 0 ≤ h 82 k ∧ h 82 k ≤ 4) ∧ (∀ k : Nat, k < 15 → 0 ≤ h 83 k ∧ h 83 k ≤ 20) ∧ (∀ k : Nat, k < 15 → 0 ≤ h 84 k ∧ h 84 k ≤ 9) ∧ (∀ k : Nat, k < 9 → -5 ≤ h 85 k ∧ h 85 k ≤ 15) ∧ (∀ k : Nat, (k : Int) < h 81 1 → 0 ≤ h 86 k ∧ h 86 k < h 81 1) ∧ (∀ j k : Nat, (j : Int) < h 81 1 → (k : Int) < h 81 1 → h 86 j = h 86 k → j = k) ∧ (∀ k : Nat, k < 9 → 0 ≤ h 87 k ∧ h 87 k ≤ 7) ∧ (∀ k : Nat, k < 9 → 0 ≤ h 88 k ∧ h 88 k ≤ 99999) ∧ (∀ k : Nat, k < 9 → 0 ≤ h 89 k ∧ h 89 k ≤ 99999) ∧ (∀ k : Nat, k < 9 → 0 ≤ h 90 k ∧ h 90 k ≤ 7) ∧ (∀ k : Nat, (k : Int) < h 81 14 → f_okc (h 93 k) ∧ (h 93 k < 100 → (h 93 k).tdiv 10 < h 81 1)) ∧ (∀ k : Nat, k < 9 → 0 ≤ h 94 k ∧ h 94 k ≤ 2) ∧ (∀ k : Nat, k < 900 → 0 ≤ h 95 k ∧ h 95 k ≤ 8) ∧ (∀ k : Nat, k < 900 → 0 ≤ h 96 k ∧ h 96 k ≤ 2) ∧ (∀ k : Nat, k < 40 → 0 ≤ h 97 k ∧ h 97 k ≤ 99) ∧ (∀ k : Nat, k < 40 → 0 ≤ h 98 k ∧ h 98 k ≤ 8) ∧ (∀ k : Nat, k < 40 → 0 ≤ h 99 k ∧ h 99 k ≤ 7) ∧ (∀ k : Nat, (k : Int) < h 81 26 → 1 ≤ h 102 k ∧ h 102 k ≤ 300) ∧ (∀ f k : Nat, (f : Int) < h 81 26 → (k : Int) < h 102 f → f_okc (h 103 (300 * f + k))) ∧ (∀ k : Nat, k < 80 → -128 ≤ h 104 k ∧ h 104 k ≤ 127) ∧ (∀ k : Nat, k < 6 → -1 ≤ h 122 k ∧ h 122 k ≤ 4) ∧ (∀ k : Nat, k < 6 → 0 ≤ h 123 k ∧ h 123 k ≤ 60) ∧ (∀ k : Nat, k < 360 → -2147483648 ≤ h 124 k ∧ h 124 k ≤ 2147483647)
theorem MI.p_ {h : HT} (x : MI h) : 0 ≤ h 81 0 ∧ h 81 0 ≤ 15 := x.1
theorem MI.n_ {h : HT} (x : MI h) : h 81 1 = 0 ∨ (3 ≤ h 81 1 ∧ h 81 1 ≤ 9) := x.2.1
theorem MI.d_ {h : HT} (x : MI h) : h 81 11 = 0 ∨ (h 81 11 = 1 ∧ 3 ≤ h 81 1) := x.2.2.1
theorem MI.s_ {h : HT} (x : MI h) : 0 ≤ h 81 14 ∧ h 81 14 ≤ 300 := x.2.2.2.1
theorem MI.r_ {h : HT} (x : MI h) : 0 ≤ h 81 15 ∧ h 81 15 ≤ 100 := x.2.2.2.2.1
theorem MI.t_ {h : HT} (x : MI h) : 0 ≤ h 81 20 ∧ h 81 20 ≤ 40 := x.2.2.2.2.2.1
theorem MI.f_ {h : HT} (x : MI h) : 0 ≤ h 81 26 ∧ h 81 26 ≤ 10 := x.2.2.2.2.2.2.1
theorem MI.e_ {h : HT} (x : MI h) : 0 ≤ h 81 27 ∧ h 81 27 ≤ 80 := x.2.2.2.2.2.2.2.1
theorem MI.a_ {h : HT} (x : MI h) : 0 ≤ h 81 55 ∧ h 81 55 ≤ 100 := x.2.2.2.2.2.2.2.2.1
theorem MI.ki_ {h : HT} (x : MI h) : ∀ k : Nat, k < 15 → 0 ≤ h 82 k ∧ h 82 k ≤ 4 := x.2.2.2.2.2.2.2.2.2.1
theorem MI.re_ {h : HT} (x : MI h) : ∀ k : Nat, k < 15 → 0 ≤ h 83 k ∧ h 83 k ≤ 20 := x.2.2.2.2.2.2.2.2.2.2.1
theorem MI.pa_ {h : HT} (x : MI h) : ∀ k : Nat, k < 15 → 0 ≤ h 84 k ∧ h 84 k ≤ 9 := x.2.2.2.2.2.2.2.2.2.2.2.1
theorem MI.wh_ {h : HT} (x : MI h) : ∀ k : Nat, k < 9 → -5 ≤ h 85 k ∧ h 85 k ≤ 15 := x.2.2.2.2.2.2.2.2.2.2.2.2.1
theorem MI.ha_ {h : HT} (x : MI h) : ∀ k : Nat, (k : Int) < h 81 1 → 0 ≤ h 86 k ∧ h 86 k < h 81 1 := x.2.2.2.2.2.2.2.2.2.2.2.2.2.1
theorem MI.hi_ {h : HT} (x : MI h) : ∀ j k : Nat, (j : Int) < h 81 1 → (k : Int) < h 81 1 → h 86 j = h 86 k → j = k := x.2.2.2.2.2.2.2.2.2.2.2.2.2.2.1
theorem MI.co_ {h : HT} (x : MI h) : ∀ k : Nat, k < 9 → 0 ≤ h 87 k ∧ h 87 k ≤ 7 := x.2.2.2.2.2.2.2.2.2.2.2.2.2.2.2.1
theorem MI.le_ {h : HT} (x : MI h) : ∀ k : Nat, k < 9 → 0 ≤ h 88 k ∧ h 88 k ≤ 99999 := x.2.2.2.2.2.2.2.2.2.2.2.2.2.2.2.2.1
theorem MI.be_ {h : HT} (x : MI h) : ∀ k : Nat, k < 9 → 0 ≤ h 89 k ∧ h 89 k ≤ 99999 := x.2.2.2.2.2.2.2.2.2.2.2.2.2.2.2.2.2.1
theorem MI.cc_ {h : HT} (x : MI h) : ∀ k : Nat, k < 9 → 0 ≤ h 90 k ∧ h 90 k ≤ 7 := x.2.2.2.2.2.2.2.2.2.2.2.2.2.2.2.2.2.2.1
theorem MI.st_ {h : HT} (x : MI h) : ∀ k : Nat, (k : Int) < h 81 14 → f_okc (h 93 k) ∧ (h 93 k < 100 → (h 93 k).tdiv 10 < h 81 1) := x.2.2.2.2.2.2.2.2.2.2.2.2.2.2.2.2.2.2.2.1
theorem MI.mk_ {h : HT} (x : MI h) : ∀ k : Nat, k < 9 → 0 ≤ h 94 k ∧ h 94 k ≤ 2 := x.2.2.2.2.2.2.2.2.2.2.2.2.2.2.2.2.2.2.2.2.1
theorem MI.cr_ {h : HT} (x : MI h) : ∀ k : Nat, k < 900 → 0 ≤ h 95 k ∧ h 95 k ≤ 8 := x.2.2.2.2.2.2.2.2.2.2.2.2.2.2.2.2.2.2.2.2.2.1
theorem MI.cm_ {h : HT} (x : MI h) : ∀ k : Nat, k < 900 → 0 ≤ h 96 k ∧ h 96 k ≤ 2 := x.2.2.2.2.2.2.2.2.2.2.2.2.2.2.2.2.2.2.2.2.2.2.1
theorem MI.t7_ {h : HT} (x : MI h) : ∀ k : Nat, k < 40 → 0 ≤ h 97 k ∧ h 97 k ≤ 99 := x.2.2.2.2.2.2.2.2.2.2.2.2.2.2.2.2.2.2.2.2.2.2.2.1
theorem MI.t8_ {h : HT} (x : MI h) : ∀ k : Nat, k < 40 → 0 ≤ h 98 k ∧ h 98 k ≤ 8 := x.2.2.2.2.2.2.2.2.2.2.2.2.2.2.2.2.2.2.2.2.2.2.2.2.1
theorem MI.t9_ {h : HT} (x : MI h) : ∀ k : Nat, k < 40 → 0 ≤ h 99 k ∧ h 99 k ≤ 7 := x.2.2.2.2.2.2.2.2.2.2.2.2.2.2.2.2.2.2.2.2.2.2.2.2.2.1
theorem MI.ma_ {h : HT} (x : MI h) : ∀ k : Nat, (k : Int) < h 81 26 → 1 ≤ h 102 k ∧ h 102 k ≤ 300 := x.2.2.2.2.2.2.2.2.2.2.2.2.2.2.2.2.2.2.2.2.2.2.2.2.2.2.1
theorem MI.to_ {h : HT} (x : MI h) : ∀ f k : Nat, (f : Int) < h 81 26 → (k : Int) < h 102 f → f_okc (h 103 (300 * f + k)) := x.2.2.2.2.2.2.2.2.2.2.2.2.2.2.2.2.2.2.2.2.2.2.2.2.2.2.2.1
theorem MI.tx_ {h : HT} (x : MI h) : ∀ k : Nat, k < 80 → -128 ≤ h 104 k ∧ h 104 k ≤ 127 := x.2.2.2.2.2.2.2.2.2.2.2.2.2.2.2.2.2.2.2.2.2.2.2.2.2.2.2.2.1
theorem MI.so_ {h : HT} (x : MI h) : ∀ k : Nat, k < 6 → -1 ≤ h 122 k ∧ h 122 k ≤ 4 := x.2.2.2.2.2.2.2.2.2.2.2.2.2.2.2.2.2.2.2.2.2.2.2.2.2.2.2.2.2.1
theorem MI.si_ {h : HT} (x : MI h) : ∀ k : Nat, k < 6 → 0 ≤ h 123 k ∧ h 123 k ≤ 60 := x.2.2.2.2.2.2.2.2.2.2.2.2.2.2.2.2.2.2.2.2.2.2.2.2.2.2.2.2.2.2.1
theorem MI.it_ {h : HT} (x : MI h) : ∀ k : Nat, k < 360 → -2147483648 ≤ h 124 k ∧ h 124 k ≤ 2147483647 := x.2.2.2.2.2.2.2.2.2.2.2.2.2.2.2.2.2.2.2.2.2.2.2.2.2.2.2.2.2.2.2
theorem MI.n9 {h : HT} (x : MI h) : 0 ≤ h 81 1 ∧ h 81 1 ≤ 9 := by have := x.n_; omega
theorem MI.d1 {h : HT} (x : MI h) : 0 ≤ h 81 11 ∧ h 81 11 ≤ 1 := by have := x.d_; omega
theorem MI.d3 {h : HT} (x : MI h) : h 81 11 ≠ 0 → 3 ≤ h 81 1 ∧ h 81 1 ≤ 9 := by have := x.d_; have := x.n_; omega
