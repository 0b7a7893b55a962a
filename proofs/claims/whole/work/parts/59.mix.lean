/-! a step of the dance: side by side -/
/-- the class's cells of one heap, the reference's of another -/
def MIX (c r : HT) : HT := fun a i => if 81 ≤ a ∧ a ≤ 125 then r a i else c a i
theorem mx_r {c r : HT} {a i : Nat} (h : 81 ≤ a ∧ a ≤ 125) : MIX c r a i = r a i := if_pos h
theorem mx_c {c r : HT} {a i : Nat} (h : ¬ (81 ≤ a ∧ a ≤ 125)) : MIX c r a i = c a i := if_neg h
theorem MIX_rf {c r : HT} : RF r (MIX c r) := fun _ _ h1 h2 => mx_r ⟨h1, h2⟩
theorem MIX_self {h : HT} : MIX h h = h := by funext a i; unfold MIX; split <;> rfl
theorem SIM_mix {τ : TT} {g : HT} (s : SIM τ g) (c r : HT) (mr : MI r) (hc : ∀ a i : Nat, (a < 81 ∨ 126 ≤ a) → ¬ (6 ≤ a ∧ a ≤ 16) → c a i = g a i) (hr : ∀ a i : Nat, f_kept a i → r a i = g a i) (dn : g 81 11 ≠ 0) (hfn : c 6 0 = g 81 1 ∧ c 6 1 = r 81 14 ∧ c 6 2 = r 81 15) (hor : ∀ p : Nat, (p : Int) < g 81 1 → c 7 p = r 86 p) (hle : ∀ p : Nat, (p : Int) < g 81 1 → c 8 p = r 88 p) (hmk : ∀ p : Nat, (p : Int) < g 81 1 → c 9 p = r 94 p) (hwh : ∀ p : Nat, (p : Int) < g 81 1 → r 85 p = g 4 (r 86 p).toNat) (hdc : c 11 1 = r 81 14) (hdd : ∀ k : Nat, (k : Int) < r 81 14 → c 12 k = r 93 k) (hcn : c 13 0 = g 81 1 ∧ c 13 1 = r 81 15) (hcl : ∀ q p : Nat, (q : Int) < r 81 15 → (p : Int) < g 81 1 → c 14 (9 * q + p) = r 95 (9 * q + p) ∧ c 15 (9 * q + p) = r 96 (9 * q + p) ∧ c 16 (9 * q + p) = f_top r q p) (hcr : ∀ k : Nat, k < 900 → (0 ≤ c 14 k ∧ c 14 k ≤ 8) ∧ (0 ≤ c 15 k ∧ c 15 k ≤ 2)) (hok : f_cok r) : SIM τ (MIX c r) := by
  obtain ⟨hT, x, y⟩ := s
  generalize hH : MIX c r = H
  have rf : RF r H := by rw [← hH]; exact MIX_rf
  have cf : ∀ a i : Nat, ¬ (81 ≤ a ∧ a ≤ 125) → H a i = c a i := fun a i q => by rw [← hH]; exact mx_c q
  have o81_0 : H 81 0 = g 81 0 := (rf 81 0 (by decide) (by decide)).trans (hr 81 0 (by decide))
  have o81_1 : H 81 1 = g 81 1 := (rf 81 1 (by decide) (by decide)).trans (hr 81 1 (by decide))
  have o81_11 : H 81 11 = g 81 11 := (rf 81 11 (by decide) (by decide)).trans (hr 81 11 (by decide))
  have o81_20 : H 81 20 = g 81 20 := (rf 81 20 (by decide) (by decide)).trans (hr 81 20 (by decide))
  have o81_26 : H 81 26 = g 81 26 := (rf 81 26 (by decide) (by decide)).trans (hr 81 26 (by decide))
  have o81_27 : H 81 27 = g 81 27 := (rf 81 27 (by decide) (by decide)).trans (hr 81 27 (by decide))
  have o81_55 : H 81 55 = g 81 55 := (rf 81 55 (by decide) (by decide)).trans (hr 81 55 (by decide))
  have o81_14 : H 81 14 = r 81 14 := rf 81 14 (by decide) (by decide)
  have o81_15 : H 81 15 = r 81 15 := rf 81 15 (by decide) (by decide)
  have o82 : ∀ k, H 82 k = g 82 k := fun k => (rf 82 k (by decide) (by decide)).trans (hr 82 k (kp (by decide)))
  have o83 : ∀ k, H 83 k = g 83 k := fun k => (rf 83 k (by decide) (by decide)).trans (hr 83 k (kp (by decide)))
  have o84 : ∀ k, H 84 k = g 84 k := fun k => (rf 84 k (by decide) (by decide)).trans (hr 84 k (kp (by decide)))
  have o87 : ∀ k, H 87 k = g 87 k := fun k => (rf 87 k (by decide) (by decide)).trans (hr 87 k (kp (by decide)))
  have o89 : ∀ k, H 89 k = g 89 k := fun k => (rf 89 k (by decide) (by decide)).trans (hr 89 k (kp (by decide)))
  have o90 : ∀ k, H 90 k = g 90 k := fun k => (rf 90 k (by decide) (by decide)).trans (hr 90 k (kp (by decide)))
  have o97 : ∀ k, H 97 k = g 97 k := fun k => (rf 97 k (by decide) (by decide)).trans (hr 97 k (kp (by decide)))
  have o98 : ∀ k, H 98 k = g 98 k := fun k => (rf 98 k (by decide) (by decide)).trans (hr 98 k (kp (by decide)))
  have o99 : ∀ k, H 99 k = g 99 k := fun k => (rf 99 k (by decide) (by decide)).trans (hr 99 k (kp (by decide)))
  have o102 : ∀ k, H 102 k = g 102 k := fun k => (rf 102 k (by decide) (by decide)).trans (hr 102 k (kp (by decide)))
  have o103 : ∀ k, H 103 k = g 103 k := fun k => (rf 103 k (by decide) (by decide)).trans (hr 103 k (kp (by decide)))
  have o104 : ∀ k, H 104 k = g 104 k := fun k => (rf 104 k (by decide) (by decide)).trans (hr 104 k (kp (by decide)))
  have o122 : ∀ k, H 122 k = g 122 k := fun k => (rf 122 k (by decide) (by decide)).trans (hr 122 k (kp (by decide)))
  have o123 : ∀ k, H 123 k = g 123 k := fun k => (rf 123 k (by decide) (by decide)).trans (hr 123 k (kp (by decide)))
  have o124 : ∀ k, H 124 k = g 124 k := fun k => (rf 124 k (by decide) (by decide)).trans (hr 124 k (kp (by decide)))
  have o121 : ∀ k, H 121 k = g 121 k := fun k => (rf 121 k (by decide) (by decide)).trans (hr 121 k (kp (by decide)))
  have o100 : ∀ k, H 100 k = g 100 k := fun k => (rf 100 k (by decide) (by decide)).trans (hr 100 k (kp (by decide)))
  have o85 : ∀ k, H 85 k = r 85 k := fun k => rf 85 k (by decide) (by decide)
  have o86 : ∀ k, H 86 k = r 86 k := fun k => rf 86 k (by decide) (by decide)
  have o88 : ∀ k, H 88 k = r 88 k := fun k => rf 88 k (by decide) (by decide)
  have o93 : ∀ k, H 93 k = r 93 k := fun k => rf 93 k (by decide) (by decide)
  have o94 : ∀ k, H 94 k = r 94 k := fun k => rf 94 k (by decide) (by decide)
  have o95 : ∀ k, H 95 k = r 95 k := fun k => rf 95 k (by decide) (by decide)
  have o96 : ∀ k, H 96 k = r 96 k := fun k => rf 96 k (by decide) (by decide)
  have o3 : ∀ k, H 3 k = g 3 k := fun k => (cf 3 k (by decide)).trans (hc 3 k (by decide) (by decide))
  have o4 : ∀ k, H 4 k = g 4 k := fun k => (cf 4 k (by decide)).trans (hc 4 k (by decide) (by decide))
  have o5 : ∀ k, H 5 k = g 5 k := fun k => (cf 5 k (by decide)).trans (hc 5 k (by decide) (by decide))
  have o17 : ∀ k, H 17 k = g 17 k := fun k => (cf 17 k (by decide)).trans (hc 17 k (by decide) (by decide))
  have o19 : ∀ k, H 19 k = g 19 k := fun k => (cf 19 k (by decide)).trans (hc 19 k (by decide) (by decide))
  have o20 : ∀ k, H 20 k = g 20 k := fun k => (cf 20 k (by decide)).trans (hc 20 k (by decide) (by decide))
  have o21 : ∀ k, H 21 k = g 21 k := fun k => (cf 21 k (by decide)).trans (hc 21 k (by decide) (by decide))
  have o41 : ∀ k, H 41 k = g 41 k := fun k => (cf 41 k (by decide)).trans (hc 41 k (by decide) (by decide))
  have o7 : ∀ k, H 7 k = c 7 k := fun k => cf 7 k (by decide)
  have o8 : ∀ k, H 8 k = c 8 k := fun k => cf 8 k (by decide)
  have o9 : ∀ k, H 9 k = c 9 k := fun k => cf 9 k (by decide)
  have o12 : ∀ k, H 12 k = c 12 k := fun k => cf 12 k (by decide)
  have o14 : ∀ k, H 14 k = c 14 k := fun k => cf 14 k (by decide)
  have o15 : ∀ k, H 15 k = c 15 k := fun k => cf 15 k (by decide)
  have o16 : ∀ k, H 16 k = c 16 k := fun k => cf 16 k (by decide)
  have q0_1 : H 0 1 = g 0 1 := (cf 0 1 (by decide)).trans (hc 0 1 (by decide) (by decide))
  have q0_6 : H 0 6 = g 0 6 := (cf 0 6 (by decide)).trans (hc 0 6 (by decide) (by decide))
  have q2_1 : H 2 1 = g 2 1 := (cf 2 1 (by decide)).trans (hc 2 1 (by decide) (by decide))
  have q18_3 : H 18 3 = g 18 3 := (cf 18 3 (by decide)).trans (hc 18 3 (by decide) (by decide))
  have q39_1 : H 39 1 = g 39 1 := (cf 39 1 (by decide)).trans (hc 39 1 (by decide) (by decide))
  have q39_3 : H 39 3 = g 39 3 := (cf 39 3 (by decide)).trans (hc 39 3 (by decide) (by decide))
  have q6_0 : H 6 0 = c 6 0 := cf 6 0 (by decide)
  have q6_1 : H 6 1 = c 6 1 := cf 6 1 (by decide)
  have q6_2 : H 6 2 = c 6 2 := cf 6 2 (by decide)
  have q11_1 : H 11 1 = c 11 1 := cf 11 1 (by decide)
  have q13_0 : H 13 0 = c 13 0 := cf 13 0 (by decide)
  have q13_1 : H 13 1 = c 13 1 := cf 13 1 (by decide)
  have hbig : ∀ a k : Nat, 126 ≤ a → H a k = g a k := fun a k ha => (cf a k (by omega)).trans (hc a k (by omega) (by omega))
  have hst : ∀ a k : Nat, 24 ≤ a → a ≤ 27 → H a k = g a k := fun a k ha hb => (cf a k (by omega)).trans (hc a k (by omega) (by omega))
  have htp : ∀ a k : Nat, 69 ≤ a → a ≤ 80 → H a k = g a k := fun a k ha hb => (cf a k (by omega)).trans (hc a k (by omega) (by omega))
  have r1 : r 81 1 = g 81 1 := hr 81 1 (by decide)
  refine ⟨hT, mr.ref rf, ⟨?_, ?_, ?_, ?_, ?_, ?_, ?_, ?_, ?_, ?_, ?_, ?_, ?_, ?_, ?_, ?_, ?_, ?_, ?_, ?_, ?_, ?_, ?_, ?_, ?_, ?_, ?_, ?_, ?_⟩⟩
  · simp only [o81_0, o81_1, o81_11, o81_20, o81_26, o81_27, o81_55, o81_14, o81_15, o82, o83, o84, o85, o86, o87, o88, o89, o90, o93, o94, o95, o96, o97, o98, o99, o102, o103, o104, o122, o123, o124, o121, o100, o3, o4, o5, o17, o19, o20, o21, o41, o7, o8, o9, o12, o14, o15, o16, q0_1, q0_6, q2_1, q18_3, q39_1, q39_3, q6_0, q6_1, q6_2, q11_1, q13_0, q13_1]; exact y.pc_
  · intro k hk; rw [o81_0] at hk; obtain ⟨o, p1, p2, p3, p4, p5, p6, p7⟩ := y.pe_ k hk; exact ⟨o, p1, p2, p3, by rw [hbig o 0 p2]; exact p4, by rw [hbig o 1 p2, o82]; exact p5, by rw [hbig o 2 p2, o83]; exact p6, by rw [hbig o 3 p2, o84]; exact p7⟩
  · simp only [o81_0, o81_1, o81_11, o81_20, o81_26, o81_27, o81_55, o81_14, o81_15, o82, o83, o84, o85, o86, o87, o88, o89, o90, o93, o94, o95, o96, o97, o98, o99, o102, o103, o104, o122, o123, o124, o121, o100, o3, o4, o5, o17, o19, o20, o21, o41, o7, o8, o9, o12, o14, o15, o16, q0_1, q0_6, q2_1, q18_3, q39_1, q39_3, q6_0, q6_1, q6_2, q11_1, q13_0, q13_1]; exact y.ra_
  · simp only [o81_0, o81_1, o81_11, o81_20, o81_26, o81_27, o81_55, o81_14, o81_15, o82, o83, o84, o85, o86, o87, o88, o89, o90, o93, o94, o95, o96, o97, o98, o99, o102, o103, o104, o122, o123, o124, o121, o100, o3, o4, o5, o17, o19, o20, o21, o41, o7, o8, o9, o12, o14, o15, o16, q0_1, q0_6, q2_1, q18_3, q39_1, q39_3, q6_0, q6_1, q6_2, q11_1, q13_0, q13_1]; exact y.tr_
  · intro p hp; rw [o81_1] at hp; rw [o85, o86, o4]; exact hwh p hp
  · simp only [o81_0, o81_1, o81_11, o81_20, o81_26, o81_27, o81_55, o81_14, o81_15, o82, o83, o84, o85, o86, o87, o88, o89, o90, o93, o94, o95, o96, o97, o98, o99, o102, o103, o104, o122, o123, o124, o121, o100, o3, o4, o5, o17, o19, o20, o21, o41, o7, o8, o9, o12, o14, o15, o16, q0_1, q0_6, q2_1, q18_3, q39_1, q39_3, q6_0, q6_1, q6_2, q11_1, q13_0, q13_1]; exact y.wr_
  · simp only [o81_0, o81_1, o81_11, o81_20, o81_26, o81_27, o81_55, o81_14, o81_15, o82, o83, o84, o85, o86, o87, o88, o89, o90, o93, o94, o95, o96, o97, o98, o99, o102, o103, o104, o122, o123, o124, o121, o100, o3, o4, o5, o17, o19, o20, o21, o41, o7, o8, o9, o12, o14, o15, o16, q0_1, q0_6, q2_1, q18_3, q39_1, q39_3, q6_0, q6_1, q6_2, q11_1, q13_0, q13_1]; exact y.co_
  · simp only [o81_0, o81_1, o81_11, o81_20, o81_26, o81_27, o81_55, o81_14, o81_15, o82, o83, o84, o85, o86, o87, o88, o89, o90, o93, o94, o95, o96, o97, o98, o99, o102, o103, o104, o122, o123, o124, o121, o100, o3, o4, o5, o17, o19, o20, o21, o41, o7, o8, o9, o12, o14, o15, o16, q0_1, q0_6, q2_1, q18_3, q39_1, q39_3, q6_0, q6_1, q6_2, q11_1, q13_0, q13_1]; exact hfn
  · simp only [o81_0, o81_1, o81_11, o81_20, o81_26, o81_27, o81_55, o81_14, o81_15, o82, o83, o84, o85, o86, o87, o88, o89, o90, o93, o94, o95, o96, o97, o98, o99, o102, o103, o104, o122, o123, o124, o121, o100, o3, o4, o5, o17, o19, o20, o21, o41, o7, o8, o9, o12, o14, o15, o16, q0_1, q0_6, q2_1, q18_3, q39_1, q39_3, q6_0, q6_1, q6_2, q11_1, q13_0, q13_1]; exact hor
  · simp only [o81_0, o81_1, o81_11, o81_20, o81_26, o81_27, o81_55, o81_14, o81_15, o82, o83, o84, o85, o86, o87, o88, o89, o90, o93, o94, o95, o96, o97, o98, o99, o102, o103, o104, o122, o123, o124, o121, o100, o3, o4, o5, o17, o19, o20, o21, o41, o7, o8, o9, o12, o14, o15, o16, q0_1, q0_6, q2_1, q18_3, q39_1, q39_3, q6_0, q6_1, q6_2, q11_1, q13_0, q13_1]; exact hle
  · simp only [o81_0, o81_1, o81_11, o81_20, o81_26, o81_27, o81_55, o81_14, o81_15, o82, o83, o84, o85, o86, o87, o88, o89, o90, o93, o94, o95, o96, o97, o98, o99, o102, o103, o104, o122, o123, o124, o121, o100, o3, o4, o5, o17, o19, o20, o21, o41, o7, o8, o9, o12, o14, o15, o16, q0_1, q0_6, q2_1, q18_3, q39_1, q39_3, q6_0, q6_1, q6_2, q11_1, q13_0, q13_1]; exact hmk
  · simp only [o81_0, o81_1, o81_11, o81_20, o81_26, o81_27, o81_55, o81_14, o81_15, o82, o83, o84, o85, o86, o87, o88, o89, o90, o93, o94, o95, o96, o97, o98, o99, o102, o103, o104, o122, o123, o124, o121, o100, o3, o4, o5, o17, o19, o20, o21, o41, o7, o8, o9, o12, o14, o15, o16, q0_1, q0_6, q2_1, q18_3, q39_1, q39_3, q6_0, q6_1, q6_2, q11_1, q13_0, q13_1]; exact y.da_
  · simp only [o81_0, o81_1, o81_11, o81_20, o81_26, o81_27, o81_55, o81_14, o81_15, o82, o83, o84, o85, o86, o87, o88, o89, o90, o93, o94, o95, o96, o97, o98, o99, o102, o103, o104, o122, o123, o124, o121, o100, o3, o4, o5, o17, o19, o20, o21, o41, o7, o8, o9, o12, o14, o15, o16, q0_1, q0_6, q2_1, q18_3, q39_1, q39_3, q6_0, q6_1, q6_2, q11_1, q13_0, q13_1]; exact hdc
  · simp only [o81_0, o81_1, o81_11, o81_20, o81_26, o81_27, o81_55, o81_14, o81_15, o82, o83, o84, o85, o86, o87, o88, o89, o90, o93, o94, o95, o96, o97, o98, o99, o102, o103, o104, o122, o123, o124, o121, o100, o3, o4, o5, o17, o19, o20, o21, o41, o7, o8, o9, o12, o14, o15, o16, q0_1, q0_6, q2_1, q18_3, q39_1, q39_3, q6_0, q6_1, q6_2, q11_1, q13_0, q13_1]; exact hdd
  · simp only [o81_0, o81_1, o81_11, o81_20, o81_26, o81_27, o81_55, o81_14, o81_15, o82, o83, o84, o85, o86, o87, o88, o89, o90, o93, o94, o95, o96, o97, o98, o99, o102, o103, o104, o122, o123, o124, o121, o100, o3, o4, o5, o17, o19, o20, o21, o41, o7, o8, o9, o12, o14, o15, o16, q0_1, q0_6, q2_1, q18_3, q39_1, q39_3, q6_0, q6_1, q6_2, q11_1, q13_0, q13_1]; exact hcn
  · intro q p hq hp; rw [o81_15] at hq; rw [o81_1] at hp; rw [o14, o15, o16, o95, o96, f_top_k (h := r) (o81_1.trans r1.symm) o95 o96]; exact hcl q p hq hp
  · simp only [o81_0, o81_1, o81_11, o81_20, o81_26, o81_27, o81_55, o81_14, o81_15, o82, o83, o84, o85, o86, o87, o88, o89, o90, o93, o94, o95, o96, o97, o98, o99, o102, o103, o104, o122, o123, o124, o121, o100, o3, o4, o5, o17, o19, o20, o21, o41, o7, o8, o9, o12, o14, o15, o16, q0_1, q0_6, q2_1, q18_3, q39_1, q39_3, q6_0, q6_1, q6_2, q11_1, q13_0, q13_1]; exact hcr
  · simp only [o81_0, o81_1, o81_11, o81_20, o81_26, o81_27, o81_55, o81_14, o81_15, o82, o83, o84, o85, o86, o87, o88, o89, o90, o93, o94, o95, o96, o97, o98, o99, o102, o103, o104, o122, o123, o124, o121, o100, o3, o4, o5, o17, o19, o20, o21, o41, o7, o8, o9, o12, o14, o15, o16, q0_1, q0_6, q2_1, q18_3, q39_1, q39_3, q6_0, q6_1, q6_2, q11_1, q13_0, q13_1]; exact y.cc_
  · intro _ k hk; rw [o81_1] at hk; rw [o17, o90]; exact y.ce_ (Or.inl dn) k hk
  · simp only [o81_0, o81_1, o81_11, o81_20, o81_26, o81_27, o81_55, o81_14, o81_15, o82, o83, o84, o85, o86, o87, o88, o89, o90, o93, o94, o95, o96, o97, o98, o99, o102, o103, o104, o122, o123, o124, o121, o100, o3, o4, o5, o17, o19, o20, o21, o41, o7, o8, o9, o12, o14, o15, o16, q0_1, q0_6, q2_1, q18_3, q39_1, q39_3, q6_0, q6_1, q6_2, q11_1, q13_0, q13_1]; exact y.pi_
  · intro hd; rw [o81_1, show t_0 H = t_0 g from by unfold t_0; rw [show H 89 = g 89 from funext o89]]; exact (y.sf_ dn).fr (fun b j b1 b2 => hst b j (by omega) (by omega))
  · rw [o81_26]; exact (y.fg_.fr q39_1 hbig).cg (fun f hf => figL_c (o102 f) (fun k hk => o103 _))
  · simp only [o81_0, o81_1, o81_11, o81_20, o81_26, o81_27, o81_55, o81_14, o81_15, o82, o83, o84, o85, o86, o87, o88, o89, o90, o93, o94, o95, o96, o97, o98, o99, o102, o103, o104, o122, o123, o124, o121, o100, o3, o4, o5, o17, o19, o20, o21, o41, o7, o8, o9, o12, o14, o15, o16, q0_1, q0_6, q2_1, q18_3, q39_1, q39_3, q6_0, q6_1, q6_2, q11_1, q13_0, q13_1]; exact y.tx_
  · intro t ht; have := y.tp_ t ht; rw [htp (69 + 2 * t) 0 (by omega) (by omega), htp (69 + 2 * t) 1 (by omega) (by omega), o122, o123]; refine ⟨this.1, this.2.1, fun i hi => ?_⟩; rw [htp (70 + 2 * t) i (by omega) (by omega), o124]; exact this.2.2 i hi
  · intro q; rw [o81_11] at q; exact absurd q dn
  · simp only [o81_0, o81_1, o81_11, o81_20, o81_26, o81_27, o81_55, o81_14, o81_15, o82, o83, o84, o85, o86, o87, o88, o89, o90, o93, o94, o95, o96, o97, o98, o99, o102, o103, o104, o122, o123, o124, o121, o100, o3, o4, o5, o17, o19, o20, o21, o41, o7, o8, o9, o12, o14, o15, o16, q0_1, q0_6, q2_1, q18_3, q39_1, q39_3, q6_0, q6_1, q6_2, q11_1, q13_0, q13_1]; exact y.sn_
  · intro q p hq hp; rw [o81_15] at hq; rw [o81_1] at hp ⊢; rw [o95]; have := hok q p hq (by rw [r1]; exact hp); rw [r1] at this; exact this
  · simp only [o81_0, o81_1, o81_11, o81_20, o81_26, o81_27, o81_55, o81_14, o81_15, o82, o83, o84, o85, o86, o87, o88, o89, o90, o93, o94, o95, o96, o97, o98, o99, o102, o103, o104, o122, o123, o124, o121, o100, o3, o4, o5, o17, o19, o20, o21, o41, o7, o8, o9, o12, o14, o15, o16, q0_1, q0_6, q2_1, q18_3, q39_1, q39_3, q6_0, q6_1, q6_2, q11_1, q13_0, q13_1]; exact y.gs_
  · rw [o81_0, o81_26]; exact y.sz_
/-- the reference's floor -/
def T_m (h : HT) : TR := (h 81 14, h 81 15, h 86, h 88, h 94)
theorem T_m_ok {h : HT} (x : MI h) : t_ok (h 81 1) (T_m h) := ⟨x.s_, x.r_, x.ha_, x.hi_, fun p hp => x.le_ p (by have := x.n9; omega), fun p hp => x.mk_ p (by have := x.n9; omega)⟩
theorem XR.ft {τ : TT} {h : HT} (y : XR τ h) : FT (h 81 1) h 6 (T_m h) := ⟨y.fn_.1, y.fn_.2.1, y.fn_.2.2, fun p hp => ⟨y.or_ p hp, y.le_ p hp, y.mk_ p hp⟩⟩
theorem t_pass_e {n p w q A B : Int} {T : TR} (hp : ¬ n ≤ p) (hq : f_aft n p = q) (hA : (if w = 0 then T.2.2.1 p.toNat else T.2.2.1 q.toNat) = A) (hB : (if w = 0 then T.2.2.1 q.toNat else T.2.2.1 p.toNat) = B) : t_pass n T p w = if T.2.2.2.1 A.toNat < 1 ∨ T.2.2.2.1 B.toNat < 2 then none else some (T.1, T.2.1, t_sw T.2.2.1 p.toNat q.toNat, (fun r => if r = A.toNat then T.2.2.2.1 r - 1 else if r = B.toNat then T.2.2.2.1 r - 2 else T.2.2.2.1 r), (fun k => if k = p.toNat then w + 1 else T.2.2.2.2 k)) := by
  subst hq; subst hA; subst hB
  unfold t_pass
  rw [if_neg hp]
/-- a pass, told by the reference and by the floor -/
theorem stp_pass {h : HT} (x : MI h) (hd : h 81 11 ≠ 0) {s : Int} (hs : f_okc s) (h1 : s < 100) : ((t_tk (h 81 1) (T_m h) s).1 ≠ 0 → (f_stp h s).2 = h ∧ (f_stp h s).1 < 0 ∧ (s.tdiv 10 < h 81 1 → (f_stp h s).1 = (t_tk (h 81 1) (T_m h) s).1)) ∧ ((t_tk (h 81 1) (T_m h) s).1 = 0 → ∃ p q a b w : Int, (0 ≤ p ∧ p < h 81 1) ∧ q = f_aft (h 81 1) p ∧ (0 ≤ w ∧ w ≤ 1) ∧ s = 10 * p + w ∧ ((w = 0 ∧ a = h 86 p.toNat ∧ b = h 86 q.toNat) ∨ (w = 1 ∧ a = h 86 q.toNat ∧ b = h 86 p.toNat)) ∧ f_stp h s = (h 81 14 + 1, f_passW h p q a b w) ∧ (t_tk (h 81 1) (T_m h) s).2 = (h 81 14 + 1, h 81 15, t_sw (h 86) p.toNat q.toNat, (fun r => if r = a.toNat then h 88 r - 1 else if r = b.toNat then h 88 r - 2 else h 88 r), (fun k => if k = p.toNat then w + 1 else h 94 k))) := by
  have d := f_okc_d hs h1
  have hw : 0 ≤ s.tmod 10 ∧ s.tmod 10 ≤ 1 := by rcases hs with z | z | z <;> omega
  have es : s = 10 * s.tdiv 10 + s.tmod 10 := by have := Int.mul_tdiv_add_tmod s 10; omega
  have s3 := x.s_
  generalize hp : s.tdiv 10 = p at *
  generalize hwq : s.tmod 10 = w at *
  have ef : f_stp h s = f_pass h p w := by unfold f_stp; rw [if_neg (by omega), hp, hwq]
  have et : t_tk (h 81 1) (T_m h) s = t_tp (h 81 1) (T_m h) p w := by unfold t_tk; rw [if_neg (by omega), hp, hwq]
  rw [ef, et]
  by_cases g1 : h 81 1 ≤ p
  · have e1 : f_pass h p w = (-1, h) := by unfold f_pass; rw [if_pos (by omega)]
    have e2 : t_tp (h 81 1) (T_m h) p w = (-3, T_m h) := by unfold t_tp t_pass; rw [if_pos g1]
    rw [e1, e2]
    exact ⟨fun _ => ⟨rfl, (show (-1 : Int) < 0 by decide), fun z => by omega⟩, fun z => absurd z (show ¬ (-3 : Int) = 0 by decide)⟩
  generalize hq : f_aft (h 81 1) p = q
  generalize hA : (if w = 0 then h 86 p.toNat else h 86 q.toNat) = A
  generalize hB : (if w = 0 then h 86 q.toNat else h 86 p.toNat) = B
  have hAB : (w = 0 ∧ A = h 86 p.toNat ∧ B = h 86 q.toNat) ∨ (w = 1 ∧ A = h 86 q.toNat ∧ B = h 86 p.toNat) := by
    by_cases z : w = 0
    · rw [if_pos z] at hA hB; exact Or.inl ⟨z, hA.symm, hB.symm⟩
    · rw [if_neg z] at hA hB; exact Or.inr ⟨by omega, hA.symm, hB.symm⟩
  have ep : f_pass h p w = if h 88 A.toNat < 1 ∨ h 88 B.toNat < 2 then (-3, h) else if h 81 14 = 300 then (-4, h) else (h 81 14 + 1, f_passW h p q A B w) := by
    unfold f_pass; rw [if_neg (by omega), if_neg (by omega), if_neg hd, hq, hA, hB]
  have etp : t_pass (h 81 1) (T_m h) p w = if h 88 A.toNat < 1 ∨ h 88 B.toNat < 2 then none else some (h 81 14, h 81 15, t_sw (h 86) p.toNat q.toNat, (fun r => if r = A.toNat then h 88 r - 1 else if r = B.toNat then h 88 r - 2 else h 88 r), (fun k => if k = p.toNat then w + 1 else h 94 k)) := t_pass_e (T := T_m h) (by omega) hq hA hB
  by_cases g2 : h 88 A.toNat < 1 ∨ h 88 B.toNat < 2
  · rw [if_pos g2] at ep etp
    have e2 : t_tp (h 81 1) (T_m h) p w = (-3, T_m h) := by unfold t_tp; rw [etp]
    rw [ep, e2]
    exact ⟨fun _ => ⟨rfl, (show (-3 : Int) < 0 by decide), fun _ => rfl⟩, fun z => absurd z (show ¬ (-3 : Int) = 0 by decide)⟩
  rw [if_neg g2] at ep etp
  by_cases g3 : h 81 14 = 300
  · rw [if_pos g3] at ep
    have e2 : t_tp (h 81 1) (T_m h) p w = (-4, T_m h) := by unfold t_tp; rw [etp]; exact if_pos (by show (300 : Int) ≤ h 81 14; omega)
    rw [ep, e2]
    exact ⟨fun _ => ⟨rfl, (show (-4 : Int) < 0 by decide), fun _ => rfl⟩, fun z => absurd z (show ¬ (-4 : Int) = 0 by decide)⟩
  rw [if_neg g3] at ep
  have e2 : t_tp (h 81 1) (T_m h) p w = (0, (h 81 14 + 1, h 81 15, t_sw (h 86) p.toNat q.toNat, (fun r => if r = A.toNat then h 88 r - 1 else if r = B.toNat then h 88 r - 2 else h 88 r), (fun k => if k = p.toNat then w + 1 else h 94 k))) := by unfold t_tp; rw [etp]; exact if_neg (by show ¬ (300 : Int) ≤ h 81 14; omega)
  rw [ep, e2]
  exact ⟨fun z => absurd rfl z, fun _ => ⟨p, q, A, B, w, by omega, hq.symm, hw, es, hAB, rfl, rfl⟩⟩
theorem stp_walk {h : HT} (x : MI h) (hd : h 81 11 ≠ 0) {s : Int} (hs : f_okc s) (h1 : 100 ≤ s) : ((t_tk (h 81 1) (T_m h) s).1 ≠ 0 → (f_stp h s).2 = h ∧ (f_stp h s).1 < 0 ∧ (f_stp h s).1 = (t_tk (h 81 1) (T_m h) s).1) ∧ ((t_tk (h 81 1) (T_m h) s).1 = 0 → (s - 100 = 0 ∨ s - 100 = 1) ∧ f_stp h s = (h 81 14 + 1, f_walkW h (s - 100)) ∧ (t_tk (h 81 1) (T_m h) s).2 = (h 81 14 + 1, h 81 15 + 1, (fun p => h 86 (f_rot (h 81 1).toNat (s - 100) p)), (fun p => h 88 p - (10 + (h 81 15).tdiv 3)), h 94) ∧ h 81 15 < 100) := by
  have hw : s - 100 = 0 ∨ s - 100 = 1 := by rcases hs with z | z | z <;> omega
  have s3 := x.s_
  have r3 := x.r_
  have ef : f_stp h s = f_walk h (s - 100) := by unfold f_stp; rw [if_pos h1]
  have et : t_tk (h 81 1) (T_m h) s = t_tw (h 81 1) (T_m h) (s - 100) := by unfold t_tk; rw [if_pos h1]
  rw [ef, et]
  have ew : f_walk h (s - 100) = if ∃ k, k < (h 81 1).toNat ∧ h 88 k < 10 + (h 81 15).tdiv 3 then (-3, h) else if h 81 14 = 300 ∨ h 81 15 = 100 then (-4, h) else (h 81 14 + 1, f_walkW h (s - 100)) := by
    unfold f_walk; rw [if_neg (by omega), if_neg hd]
  by_cases g1 : ∃ k, k < (h 81 1).toNat ∧ h 88 k < 10 + (h 81 15).tdiv 3
  · rw [if_pos g1] at ew
    have e2 : t_tw (h 81 1) (T_m h) (s - 100) = (-3, T_m h) := by
      unfold t_tw; rw [if_neg]
      intro z
      obtain ⟨k, k1, k2⟩ := g1
      have : 10 + (h 81 15).tdiv 3 ≤ h 88 k := z k k1
      omega
    rw [ew, e2]
    exact ⟨fun _ => ⟨rfl, (show (-3 : Int) < 0 by decide), rfl⟩, fun z => absurd z (show ¬ (-3 : Int) = 0 by decide)⟩
  rw [if_neg g1] at ew
  have hl : t_len (h 81 1) (T_m h) := fun k hk => by
    show 10 + (h 81 15).tdiv 3 ≤ h 88 k
    exact Classical.byContradiction fun z => g1 ⟨k, hk, by omega⟩
  by_cases g2 : h 81 14 = 300 ∨ h 81 15 = 100
  · rw [if_pos g2] at ew
    have e2 : t_tw (h 81 1) (T_m h) (s - 100) = (-4, T_m h) := by
      unfold t_tw; rw [if_pos hl, if_pos (by show (300 : Int) ≤ h 81 14 ∨ (100 : Int) ≤ h 81 15; omega)]
    rw [ew, e2]
    exact ⟨fun _ => ⟨rfl, (show (-4 : Int) < 0 by decide), rfl⟩, fun z => absurd z (show ¬ (-4 : Int) = 0 by decide)⟩
  rw [if_neg g2] at ew
  have e2 : t_tw (h 81 1) (T_m h) (s - 100) = (0, (h 81 14 + 1, h 81 15 + 1, (fun p => h 86 (f_rot (h 81 1).toNat (s - 100) p)), (fun p => h 88 p - (10 + (h 81 15).tdiv 3)), h 94)) := by
    unfold t_tw; rw [if_pos hl, if_neg (by show ¬ ((300 : Int) ≤ h 81 14 ∨ (100 : Int) ≤ h 81 15); omega)]; rfl
  rw [ew, e2]
  exact ⟨fun z => absurd rfl z, fun _ => ⟨hw, rfl, rfl, by omega⟩⟩
