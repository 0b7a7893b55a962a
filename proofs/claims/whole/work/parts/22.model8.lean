/-! the reference: what steps keep; texts -/
theorem f_passW_86 (h : HT) (p q a b w : Int) (k : Nat) : f_passW h p q a b w 86 k = if k = q.toNat then h 86 p.toNat else if k = p.toNat then h 86 q.toNat else h 86 k := by
  simp [f_passW, hs_]
theorem f_passW_85 (h : HT) (p q a b w : Int) (k : Nat) : f_passW h p q a b w 85 k = if k = q.toNat then h 85 p.toNat else if k = p.toNat then h 85 q.toNat else h 85 k := by
  simp [f_passW, hs_]
theorem f_passW_88 (h : HT) (p q a b w : Int) (k : Nat) (hab : a.toNat ≠ b.toNat) : f_passW h p q a b w 88 k = if k = b.toNat then h 88 k - 2 else if k = a.toNat then h 88 k - 1 else h 88 k := by
  simp only [f_passW, hs_]
  by_cases h1 : k = b.toNat
  · subst h1; simp [Ne.symm hab]
  · by_cases h2 : k = a.toNat
    · subst h2; simp [h1]
    · simp [h1, h2]
theorem f_passW_94 (h : HT) (p q a b w : Int) (k : Nat) : f_passW h p q a b w 94 k = if k = p.toNat then w + 1 else h 94 k := by
  simp [f_passW, hs_]
theorem f_passW_93 (h : HT) (p q a b w : Int) (k : Nat) : f_passW h p q a b w 93 k = if k = (h 81 14).toNat then 10 * p + w else h 93 k := by
  simp [f_passW, hs_]
theorem f_passW_14 (h : HT) (p q a b w : Int) : f_passW h p q a b w 81 14 = h 81 14 + 1 := hs_eq
theorem MI_passW {h : HT} (x : MI h) {p q a b w : Int} (hp : 0 ≤ p ∧ p < h 81 1) (hq : q = f_aft (h 81 1) p) (hab : (a = h 86 p.toNat ∧ b = h 86 q.toNat) ∨ (a = h 86 q.toNat ∧ b = h 86 p.toNat)) (ha : 1 ≤ h 88 a.toNat) (hb : 2 ≤ h 88 b.toNat) (hw : w = 0 ∨ w = 1) (hs : h 81 14 ≤ 299) : MI (f_passW h p q a b w) := by
  have hn := x.n_
  have hq2 := f_aft_r hp
  rw [← hq] at hq2
  have hpq : p ≠ q := by rw [hq]; unfold f_aft; split <;> omega
  have hi6 := x.hi_ p.toNat q.toNat (by omega) (by omega)
  have ha1 := x.ha_ p.toNat (by omega)
  have ha2 := x.ha_ q.toNat (by omega)
  have hne : a.toNat ≠ b.toNat := by rcases hab with ⟨r1, r2⟩ | ⟨r1, r2⟩ <;> (intro z; have := hi6 (by omega); omega)
  have o81_0 : (f_passW h p q a b w) 81 0 = h 81 0 := by simp [f_passW, hs_]
  have o81_1 : (f_passW h p q a b w) 81 1 = h 81 1 := by simp [f_passW, hs_]
  have o81_11 : (f_passW h p q a b w) 81 11 = h 81 11 := by simp [f_passW, hs_]
  have o81_15 : (f_passW h p q a b w) 81 15 = h 81 15 := by simp [f_passW, hs_]
  have o81_20 : (f_passW h p q a b w) 81 20 = h 81 20 := by simp [f_passW, hs_]
  have o81_26 : (f_passW h p q a b w) 81 26 = h 81 26 := by simp [f_passW, hs_]
  have o81_27 : (f_passW h p q a b w) 81 27 = h 81 27 := by simp [f_passW, hs_]
  have o81_55 : (f_passW h p q a b w) 81 55 = h 81 55 := by simp [f_passW, hs_]
  have o82 : ∀ k, (f_passW h p q a b w) 82 k = h 82 k := fun k => by simp [f_passW, hs_]
  have o83 : ∀ k, (f_passW h p q a b w) 83 k = h 83 k := fun k => by simp [f_passW, hs_]
  have o84 : ∀ k, (f_passW h p q a b w) 84 k = h 84 k := fun k => by simp [f_passW, hs_]
  have o87 : ∀ k, (f_passW h p q a b w) 87 k = h 87 k := fun k => by simp [f_passW, hs_]
  have o89 : ∀ k, (f_passW h p q a b w) 89 k = h 89 k := fun k => by simp [f_passW, hs_]
  have o90 : ∀ k, (f_passW h p q a b w) 90 k = h 90 k := fun k => by simp [f_passW, hs_]
  have o95 : ∀ k, (f_passW h p q a b w) 95 k = h 95 k := fun k => by simp [f_passW, hs_]
  have o96 : ∀ k, (f_passW h p q a b w) 96 k = h 96 k := fun k => by simp [f_passW, hs_]
  have o97 : ∀ k, (f_passW h p q a b w) 97 k = h 97 k := fun k => by simp [f_passW, hs_]
  have o98 : ∀ k, (f_passW h p q a b w) 98 k = h 98 k := fun k => by simp [f_passW, hs_]
  have o99 : ∀ k, (f_passW h p q a b w) 99 k = h 99 k := fun k => by simp [f_passW, hs_]
  have o102 : ∀ k, (f_passW h p q a b w) 102 k = h 102 k := fun k => by simp [f_passW, hs_]
  have o103 : ∀ k, (f_passW h p q a b w) 103 k = h 103 k := fun k => by simp [f_passW, hs_]
  have o104 : ∀ k, (f_passW h p q a b w) 104 k = h 104 k := fun k => by simp [f_passW, hs_]
  have o122 : ∀ k, (f_passW h p q a b w) 122 k = h 122 k := fun k => by simp [f_passW, hs_]
  have o123 : ∀ k, (f_passW h p q a b w) 123 k = h 123 k := fun k => by simp [f_passW, hs_]
  have o124 : ∀ k, (f_passW h p q a b w) 124 k = h 124 k := fun k => by simp [f_passW, hs_]
  refine ⟨?_, ?_, ?_, ?_, ?_, ?_, ?_, ?_, ?_, ?_, ?_, ?_, ?_, ?_, ?_, ?_, ?_, ?_, ?_, ?_, ?_, ?_, ?_, ?_, ?_, ?_, ?_, ?_, ?_, ?_, ?_, ?_⟩
  · simp only [o81_0, o81_1, o81_11, o81_15, o81_20, o81_26, o81_27, o81_55, o82, o83, o84, o87, o89, o90, o95, o96, o97, o98, o99, o102, o103, o104, o122, o123, o124]; exact x.p_
  · simp only [o81_0, o81_1, o81_11, o81_15, o81_20, o81_26, o81_27, o81_55, o82, o83, o84, o87, o89, o90, o95, o96, o97, o98, o99, o102, o103, o104, o122, o123, o124]; exact x.n_
  · simp only [o81_0, o81_1, o81_11, o81_15, o81_20, o81_26, o81_27, o81_55, o82, o83, o84, o87, o89, o90, o95, o96, o97, o98, o99, o102, o103, o104, o122, o123, o124]; exact x.d_
  · rw [f_passW_14]; have := x.s_; omega
  · simp only [o81_0, o81_1, o81_11, o81_15, o81_20, o81_26, o81_27, o81_55, o82, o83, o84, o87, o89, o90, o95, o96, o97, o98, o99, o102, o103, o104, o122, o123, o124]; exact x.r_
  · simp only [o81_0, o81_1, o81_11, o81_15, o81_20, o81_26, o81_27, o81_55, o82, o83, o84, o87, o89, o90, o95, o96, o97, o98, o99, o102, o103, o104, o122, o123, o124]; exact x.t_
  · simp only [o81_0, o81_1, o81_11, o81_15, o81_20, o81_26, o81_27, o81_55, o82, o83, o84, o87, o89, o90, o95, o96, o97, o98, o99, o102, o103, o104, o122, o123, o124]; exact x.f_
  · simp only [o81_0, o81_1, o81_11, o81_15, o81_20, o81_26, o81_27, o81_55, o82, o83, o84, o87, o89, o90, o95, o96, o97, o98, o99, o102, o103, o104, o122, o123, o124]; exact x.e_
  · simp only [o81_0, o81_1, o81_11, o81_15, o81_20, o81_26, o81_27, o81_55, o82, o83, o84, o87, o89, o90, o95, o96, o97, o98, o99, o102, o103, o104, o122, o123, o124]; exact x.a_
  · simp only [o81_0, o81_1, o81_11, o81_15, o81_20, o81_26, o81_27, o81_55, o82, o83, o84, o87, o89, o90, o95, o96, o97, o98, o99, o102, o103, o104, o122, o123, o124]; exact x.ki_
  · simp only [o81_0, o81_1, o81_11, o81_15, o81_20, o81_26, o81_27, o81_55, o82, o83, o84, o87, o89, o90, o95, o96, o97, o98, o99, o102, o103, o104, o122, o123, o124]; exact x.re_
  · simp only [o81_0, o81_1, o81_11, o81_15, o81_20, o81_26, o81_27, o81_55, o82, o83, o84, o87, o89, o90, o95, o96, o97, o98, o99, o102, o103, o104, o122, o123, o124]; exact x.pa_
  · intro k hk; have h1 := x.wh_ k hk; have h2 := x.wh_ q.toNat (by omega); have h3 := x.wh_ p.toNat (by omega); simp only [f_passW, hs_]; split <;> (try split) <;> (try split) <;> (try split) <;> (try split) <;> simp_all <;> omega
  · intro k hk; rw [o81_1] at hk ⊢; rw [f_passW_86]; have h1 := x.ha_ k hk; have h2 := x.ha_ q.toNat (by omega); have h3 := x.ha_ p.toNat (by omega); split <;> (try split) <;> omega
  · intro j k hj hk; rw [o81_1] at hj hk; rw [f_passW_86, f_passW_86]; have i1 := x.hi_ j k hj hk; have i2 := x.hi_ j q.toNat hj (by omega); have i3 := x.hi_ j p.toNat hj (by omega); have i4 := x.hi_ p.toNat k (by omega) hk; have i5 := x.hi_ q.toNat k (by omega) hk; have i6 := x.hi_ p.toNat q.toNat (by omega) (by omega); grind
  · simp only [o81_0, o81_1, o81_11, o81_15, o81_20, o81_26, o81_27, o81_55, o82, o83, o84, o87, o89, o90, o95, o96, o97, o98, o99, o102, o103, o104, o122, o123, o124]; exact x.co_
  · intro k hk; have h1 := x.le_ k hk; rw [f_passW_88 _ _ _ _ _ _ _ hne]; split; (rename_i z; rw [z] at h1 ⊢; omega); split; (rename_i z; rw [z] at h1 ⊢; omega); exact h1
  · simp only [o81_0, o81_1, o81_11, o81_15, o81_20, o81_26, o81_27, o81_55, o82, o83, o84, o87, o89, o90, o95, o96, o97, o98, o99, o102, o103, o104, o122, o123, o124]; exact x.be_
  · simp only [o81_0, o81_1, o81_11, o81_15, o81_20, o81_26, o81_27, o81_55, o82, o83, o84, o87, o89, o90, o95, o96, o97, o98, o99, o102, o103, o104, o122, o123, o124]; exact x.cc_
  · intro k hk; rw [f_passW_14] at hk; rw [f_passW_93, o81_1]; split; (refine ⟨Or.inl ⟨by omega, by omega, ?_⟩, fun _ => ?_⟩; (rw [show (10 * p + w).tmod 10 = w from by rw [Int.tmod_eq_emod_of_nonneg (by omega)]; omega]; exact hw); (rw [show (10 * p + w).tdiv 10 = p from by rw [Int.tdiv_eq_ediv_of_nonneg (by omega)]; omega]; exact hp.2)); exact x.st_ k (by omega)
  · intro k hk; have h1 := x.mk_ k hk; rw [f_passW_94]; split <;> omega
  · simp only [o81_0, o81_1, o81_11, o81_15, o81_20, o81_26, o81_27, o81_55, o82, o83, o84, o87, o89, o90, o95, o96, o97, o98, o99, o102, o103, o104, o122, o123, o124]; exact x.cr_
  · simp only [o81_0, o81_1, o81_11, o81_15, o81_20, o81_26, o81_27, o81_55, o82, o83, o84, o87, o89, o90, o95, o96, o97, o98, o99, o102, o103, o104, o122, o123, o124]; exact x.cm_
  · simp only [o81_0, o81_1, o81_11, o81_15, o81_20, o81_26, o81_27, o81_55, o82, o83, o84, o87, o89, o90, o95, o96, o97, o98, o99, o102, o103, o104, o122, o123, o124]; exact x.t7_
  · simp only [o81_0, o81_1, o81_11, o81_15, o81_20, o81_26, o81_27, o81_55, o82, o83, o84, o87, o89, o90, o95, o96, o97, o98, o99, o102, o103, o104, o122, o123, o124]; exact x.t8_
  · simp only [o81_0, o81_1, o81_11, o81_15, o81_20, o81_26, o81_27, o81_55, o82, o83, o84, o87, o89, o90, o95, o96, o97, o98, o99, o102, o103, o104, o122, o123, o124]; exact x.t9_
  · simp only [o81_0, o81_1, o81_11, o81_15, o81_20, o81_26, o81_27, o81_55, o82, o83, o84, o87, o89, o90, o95, o96, o97, o98, o99, o102, o103, o104, o122, o123, o124]; exact x.ma_
  · simp only [o81_0, o81_1, o81_11, o81_15, o81_20, o81_26, o81_27, o81_55, o82, o83, o84, o87, o89, o90, o95, o96, o97, o98, o99, o102, o103, o104, o122, o123, o124]; exact x.to_
  · simp only [o81_0, o81_1, o81_11, o81_15, o81_20, o81_26, o81_27, o81_55, o82, o83, o84, o87, o89, o90, o95, o96, o97, o98, o99, o102, o103, o104, o122, o123, o124]; exact x.tx_
  · simp only [o81_0, o81_1, o81_11, o81_15, o81_20, o81_26, o81_27, o81_55, o82, o83, o84, o87, o89, o90, o95, o96, o97, o98, o99, o102, o103, o104, o122, o123, o124]; exact x.so_
  · simp only [o81_0, o81_1, o81_11, o81_15, o81_20, o81_26, o81_27, o81_55, o82, o83, o84, o87, o89, o90, o95, o96, o97, o98, o99, o102, o103, o104, o122, o123, o124]; exact x.si_
  · simp only [o81_0, o81_1, o81_11, o81_15, o81_20, o81_26, o81_27, o81_55, o82, o83, o84, o87, o89, o90, o95, o96, o97, o98, o99, o102, o103, o104, o122, o123, o124]; exact x.it_
theorem MI_pass {h : HT} (x : MI h) (p w : Int) : MI (f_pass h p w).2 := by
  have hn := x.n_
  have hd := x.d_
  have hs := x.s_
  unfold f_pass
  by_cases g1 : ¬ (0 ≤ p ∧ p ≤ h 81 1 - 1)
  · rw [if_pos g1]; exact x
  rw [if_neg g1]
  by_cases g2 : ¬ (0 ≤ w ∧ w ≤ 1)
  · rw [if_pos g2]; exact x
  rw [if_neg g2]
  by_cases g3 : h 81 11 = 0
  · rw [if_pos g3]; exact x
  rw [if_neg g3]
  generalize hA : (if w = 0 then h 86 p.toNat else h 86 (f_aft (h 81 1) p).toNat) = A
  generalize hB : (if w = 0 then h 86 (f_aft (h 81 1) p).toNat else h 86 p.toNat) = B
  by_cases g4 : h 88 A.toNat < 1 ∨ h 88 B.toNat < 2
  · rw [if_pos g4]; exact x
  rw [if_neg g4]
  by_cases g5 : h 81 14 = 300
  · rw [if_pos g5]; exact x
  rw [if_neg g5]
  refine MI_passW x (by omega) rfl ?_ (by omega) (by omega) (by omega) (by omega)
  by_cases hw : w = 0
  · rw [if_pos hw] at hA hB; exact Or.inl ⟨hA.symm, hB.symm⟩
  · rw [if_neg hw] at hA hB; exact Or.inr ⟨hA.symm, hB.symm⟩
def f_rot (n : Nat) (w : Int) (j : Nat) : Nat := if w = 0 then (if j = 0 then n - 1 else j - 1) else (if j = n - 1 then 0 else j + 1)
theorem f_rot_r {n : Nat} {w : Int} {j : Nat} (hn : 0 < n) (hj : j < n) : f_rot n w j < n := by unfold f_rot; split <;> split <;> omega
theorem f_rot_i {n : Nat} {w : Int} {j k : Nat} (hj : j < n) (hk : k < n) (e : f_rot n w j = f_rot n w k) : j = k := by unfold f_rot at e; split at e <;> split at e <;> split at e <;> omega
theorem f_turn_at {h : HT} {a n : Nat} {w : Int} {j : Nat} : f_turn h a n w a j = if j < n then h a (f_rot n w j) else h a j := by
  unfold f_turn f_rot
  by_cases hj : j < n
  · rw [if_pos ⟨rfl, hj⟩, if_pos hj]
    by_cases hw : w = 0
    · simp only [if_pos hw]; split <;> rfl
    · simp only [if_neg hw]; split <;> rfl
  · rw [if_neg (fun q => hj q.2), if_neg hj]
theorem f_walkW_86 {h : HT} {w : Int} {k : Nat} : f_walkW h w 86 k = if k < (h 81 1).toNat then h 86 (f_rot (h 81 1).toNat w k) else h 86 k := by
  simp only [f_walkW]
  rw [hs_na (by decide), hs_na (by decide), hs_na (by decide), f_w2_o (by decide), f_turn_o (by decide), f_turn_at]
  simp only [f_w1_o (show (86 : Nat) ≠ 88 by decide)]
theorem f_walkW_85 {h : HT} {w : Int} {k : Nat} : f_walkW h w 85 k = if k < (h 81 1).toNat then h 85 (f_rot (h 81 1).toNat w k) else h 85 k := by
  simp only [f_walkW]
  rw [hs_na (by decide), hs_na (by decide), hs_na (by decide), f_w2_o (by decide), f_turn_at]
  simp only [f_turn_o (show (85 : Nat) ≠ 86 by decide), f_w1_o (show (85 : Nat) ≠ 88 by decide)]
theorem f_walkW_88 {h : HT} {w : Int} {k : Nat} : f_walkW h w 88 k = if k < (h 81 1).toNat then h 88 k - (10 + (h 81 15).tdiv 3) else h 88 k := by
  simp only [f_walkW]
  rw [hs_na (by decide), hs_na (by decide), hs_na (by decide), f_w2_o (by decide), f_turn_o (by decide), f_turn_o (by decide)]
  unfold f_w1
  by_cases hk : k < (h 81 1).toNat
  · rw [if_pos ⟨rfl, hk⟩, if_pos hk]
  · rw [if_neg (fun q => hk q.2), if_neg hk]
theorem f_walkW_94 {h : HT} {w : Int} {k : Nat} : f_walkW h w 94 k = if k < (h 81 1).toNat then 0 else h 94 k := by
  simp only [f_walkW]
  rw [hs_na (by decide), hs_na (by decide), hs_na (by decide)]
  simp only [f_w2, show ¬ ((94 : Nat) = 95) by decide, show ¬ ((94 : Nat) = 96) by decide, false_and, if_false, true_and]
  rw [f_turn_o (by decide), f_turn_o (by decide), f_w1_o (by decide)]
theorem f_walkW_95 {h : HT} {w : Int} {k : Nat} : f_walkW h w 95 k = if 9 * (h 81 15).toNat ≤ k ∧ k < 9 * (h 81 15).toNat + (h 81 1).toNat then f_walkW h w 86 (k - 9 * (h 81 15).toNat) else h 95 k := by
  have e : ∀ j, f_walkW h w 86 j = f_turn (f_turn (f_w1 h (10 + (h 81 15).tdiv 3) (h 81 1).toNat) 86 (h 81 1).toNat w) 85 (h 81 1).toNat w 86 j := by
    intro j; simp only [f_walkW]; rw [hs_na (by decide), hs_na (by decide), hs_na (by decide), f_w2_o (by decide)]
  rw [e]
  simp only [f_walkW]
  rw [hs_na (by decide), hs_na (by decide), hs_na (by decide)]
  simp only [f_w2, show ¬ ((95 : Nat) = 96) by decide, show ¬ ((95 : Nat) = 94) by decide, false_and, if_false, true_and]
  rw [f_turn_o (show (95 : Nat) ≠ 85 by decide), f_turn_o (show (95 : Nat) ≠ 86 by decide), f_w1_o (show (95 : Nat) ≠ 88 by decide)]
theorem f_walkW_96 {h : HT} {w : Int} {k : Nat} : f_walkW h w 96 k = if 9 * (h 81 15).toNat ≤ k ∧ k < 9 * (h 81 15).toNat + (h 81 1).toNat then h 94 (k - 9 * (h 81 15).toNat) else h 96 k := by
  simp only [f_walkW]
  rw [hs_na (by decide), hs_na (by decide), hs_na (by decide)]
  simp only [f_w2, show ¬ ((96 : Nat) = 95) by decide, show ¬ ((96 : Nat) = 94) by decide, false_and, if_false, true_and]
  simp only [f_turn_o (show (96 : Nat) ≠ 85 by decide), f_turn_o (show (96 : Nat) ≠ 86 by decide), f_w1_o (show (96 : Nat) ≠ 88 by decide), f_turn_o (show (94 : Nat) ≠ 85 by decide), f_turn_o (show (94 : Nat) ≠ 86 by decide), f_w1_o (show (94 : Nat) ≠ 88 by decide)]
theorem f_walkW_93 {h : HT} {w : Int} {k : Nat} : f_walkW h w 93 k = if k = (h 81 14).toNat then 100 + w else h 93 k := by
  simp only [f_walkW]
  rw [hs_na (by decide)]
  by_cases hk : k = (h 81 14).toNat
  · rw [if_pos hk, hk, hs_eq]
  · rw [if_neg hk, hs_ni hk, hs_na (by decide), f_w2_o (by decide), f_turn_o (by decide), f_turn_o (by decide), f_w1_o (by decide)]
theorem f_walkW_14 {h : HT} {w : Int} : f_walkW h w 81 14 = h 81 14 + 1 := hs_eq
theorem f_walkW_15 {h : HT} {w : Int} : f_walkW h w 81 15 = h 81 15 + 1 := by
  simp only [f_walkW]; rw [hs_ni (by decide), hs_na (by decide), hs_eq]
theorem f_walkW_o {h : HT} {w : Int} {a k : Nat} (ha : a ≠ 85 ∧ a ≠ 86 ∧ a ≠ 88 ∧ a ≠ 93 ∧ a ≠ 94 ∧ a ≠ 95 ∧ a ≠ 96 ∧ ¬ (a = 81 ∧ (k = 14 ∨ k = 15))) : f_walkW h w a k = h a k := by
  obtain ⟨a1, a2, a3, a4, a5, a6, a7, a8⟩ := ha
  simp only [f_walkW]
  have e : ∀ (X : HT) i v, ¬ (a = 81 ∧ k = i) → hs_ X 81 i v a k = X a k := fun X i v q => if_neg q
  rw [e _ 14 _ (fun q => a8 ⟨q.1, Or.inl q.2⟩), hs_na a4, e _ 15 _ (fun q => a8 ⟨q.1, Or.inr q.2⟩), f_w2_o ⟨a6, a7, a5⟩, f_turn_o a1, f_turn_o a2, f_w1_o a3]
theorem MI_walkW {h : HT} (x : MI h) {w : Int} (hn3 : 3 ≤ h 81 1) (hl : ∀ k : Nat, k < (h 81 1).toNat → ¬ h 88 k < 10 + (h 81 15).tdiv 3) (hw : w = 0 ∨ w = 1) (hs : h 81 14 ≤ 299) (hr : h 81 15 ≤ 99) : MI (f_walkW h w) := by
  have hn := x.n_
  have hg : 0 ≤ (h 81 15).tdiv 3 := Int.tdiv_nonneg x.r_.1 (by decide)
  have o81_0 : (f_walkW h w) 81 0 = h 81 0 := by exact f_walkW_o (by refine ⟨by decide, by decide, by decide, by decide, by decide, by decide, by decide, fun q => ?_⟩; first | exact absurd q.1 (by decide) | exact absurd q.2 (by decide))
  have o81_1 : (f_walkW h w) 81 1 = h 81 1 := by exact f_walkW_o (by refine ⟨by decide, by decide, by decide, by decide, by decide, by decide, by decide, fun q => ?_⟩; first | exact absurd q.1 (by decide) | exact absurd q.2 (by decide))
  have o81_11 : (f_walkW h w) 81 11 = h 81 11 := by exact f_walkW_o (by refine ⟨by decide, by decide, by decide, by decide, by decide, by decide, by decide, fun q => ?_⟩; first | exact absurd q.1 (by decide) | exact absurd q.2 (by decide))
  have o81_20 : (f_walkW h w) 81 20 = h 81 20 := by exact f_walkW_o (by refine ⟨by decide, by decide, by decide, by decide, by decide, by decide, by decide, fun q => ?_⟩; first | exact absurd q.1 (by decide) | exact absurd q.2 (by decide))
  have o81_26 : (f_walkW h w) 81 26 = h 81 26 := by exact f_walkW_o (by refine ⟨by decide, by decide, by decide, by decide, by decide, by decide, by decide, fun q => ?_⟩; first | exact absurd q.1 (by decide) | exact absurd q.2 (by decide))
  have o81_27 : (f_walkW h w) 81 27 = h 81 27 := by exact f_walkW_o (by refine ⟨by decide, by decide, by decide, by decide, by decide, by decide, by decide, fun q => ?_⟩; first | exact absurd q.1 (by decide) | exact absurd q.2 (by decide))
  have o81_55 : (f_walkW h w) 81 55 = h 81 55 := by exact f_walkW_o (by refine ⟨by decide, by decide, by decide, by decide, by decide, by decide, by decide, fun q => ?_⟩; first | exact absurd q.1 (by decide) | exact absurd q.2 (by decide))
  have o82 : ∀ k, (f_walkW h w) 82 k = h 82 k := fun k => by exact f_walkW_o (by refine ⟨by decide, by decide, by decide, by decide, by decide, by decide, by decide, fun q => ?_⟩; first | exact absurd q.1 (by decide) | exact absurd q.2 (by decide))
  have o83 : ∀ k, (f_walkW h w) 83 k = h 83 k := fun k => by exact f_walkW_o (by refine ⟨by decide, by decide, by decide, by decide, by decide, by decide, by decide, fun q => ?_⟩; first | exact absurd q.1 (by decide) | exact absurd q.2 (by decide))
  have o84 : ∀ k, (f_walkW h w) 84 k = h 84 k := fun k => by exact f_walkW_o (by refine ⟨by decide, by decide, by decide, by decide, by decide, by decide, by decide, fun q => ?_⟩; first | exact absurd q.1 (by decide) | exact absurd q.2 (by decide))
  have o87 : ∀ k, (f_walkW h w) 87 k = h 87 k := fun k => by exact f_walkW_o (by refine ⟨by decide, by decide, by decide, by decide, by decide, by decide, by decide, fun q => ?_⟩; first | exact absurd q.1 (by decide) | exact absurd q.2 (by decide))
  have o89 : ∀ k, (f_walkW h w) 89 k = h 89 k := fun k => by exact f_walkW_o (by refine ⟨by decide, by decide, by decide, by decide, by decide, by decide, by decide, fun q => ?_⟩; first | exact absurd q.1 (by decide) | exact absurd q.2 (by decide))
  have o90 : ∀ k, (f_walkW h w) 90 k = h 90 k := fun k => by exact f_walkW_o (by refine ⟨by decide, by decide, by decide, by decide, by decide, by decide, by decide, fun q => ?_⟩; first | exact absurd q.1 (by decide) | exact absurd q.2 (by decide))
  have o97 : ∀ k, (f_walkW h w) 97 k = h 97 k := fun k => by exact f_walkW_o (by refine ⟨by decide, by decide, by decide, by decide, by decide, by decide, by decide, fun q => ?_⟩; first | exact absurd q.1 (by decide) | exact absurd q.2 (by decide))
  have o98 : ∀ k, (f_walkW h w) 98 k = h 98 k := fun k => by exact f_walkW_o (by refine ⟨by decide, by decide, by decide, by decide, by decide, by decide, by decide, fun q => ?_⟩; first | exact absurd q.1 (by decide) | exact absurd q.2 (by decide))
  have o99 : ∀ k, (f_walkW h w) 99 k = h 99 k := fun k => by exact f_walkW_o (by refine ⟨by decide, by decide, by decide, by decide, by decide, by decide, by decide, fun q => ?_⟩; first | exact absurd q.1 (by decide) | exact absurd q.2 (by decide))
  have o102 : ∀ k, (f_walkW h w) 102 k = h 102 k := fun k => by exact f_walkW_o (by refine ⟨by decide, by decide, by decide, by decide, by decide, by decide, by decide, fun q => ?_⟩; first | exact absurd q.1 (by decide) | exact absurd q.2 (by decide))
  have o103 : ∀ k, (f_walkW h w) 103 k = h 103 k := fun k => by exact f_walkW_o (by refine ⟨by decide, by decide, by decide, by decide, by decide, by decide, by decide, fun q => ?_⟩; first | exact absurd q.1 (by decide) | exact absurd q.2 (by decide))
  have o104 : ∀ k, (f_walkW h w) 104 k = h 104 k := fun k => by exact f_walkW_o (by refine ⟨by decide, by decide, by decide, by decide, by decide, by decide, by decide, fun q => ?_⟩; first | exact absurd q.1 (by decide) | exact absurd q.2 (by decide))
  have o122 : ∀ k, (f_walkW h w) 122 k = h 122 k := fun k => by exact f_walkW_o (by refine ⟨by decide, by decide, by decide, by decide, by decide, by decide, by decide, fun q => ?_⟩; first | exact absurd q.1 (by decide) | exact absurd q.2 (by decide))
  have o123 : ∀ k, (f_walkW h w) 123 k = h 123 k := fun k => by exact f_walkW_o (by refine ⟨by decide, by decide, by decide, by decide, by decide, by decide, by decide, fun q => ?_⟩; first | exact absurd q.1 (by decide) | exact absurd q.2 (by decide))
  have o124 : ∀ k, (f_walkW h w) 124 k = h 124 k := fun k => by exact f_walkW_o (by refine ⟨by decide, by decide, by decide, by decide, by decide, by decide, by decide, fun q => ?_⟩; first | exact absurd q.1 (by decide) | exact absurd q.2 (by decide))
  refine ⟨?_, ?_, ?_, ?_, ?_, ?_, ?_, ?_, ?_, ?_, ?_, ?_, ?_, ?_, ?_, ?_, ?_, ?_, ?_, ?_, ?_, ?_, ?_, ?_, ?_, ?_, ?_, ?_, ?_, ?_, ?_, ?_⟩
  · simp only [o81_0, o81_1, o81_11, o81_20, o81_26, o81_27, o81_55, o82, o83, o84, o87, o89, o90, o97, o98, o99, o102, o103, o104, o122, o123, o124]; exact x.p_
  · simp only [o81_0, o81_1, o81_11, o81_20, o81_26, o81_27, o81_55, o82, o83, o84, o87, o89, o90, o97, o98, o99, o102, o103, o104, o122, o123, o124]; exact x.n_
  · simp only [o81_0, o81_1, o81_11, o81_20, o81_26, o81_27, o81_55, o82, o83, o84, o87, o89, o90, o97, o98, o99, o102, o103, o104, o122, o123, o124]; exact x.d_
  · rw [f_walkW_14]; have := x.s_; omega
  · rw [f_walkW_15]; have := x.r_; omega
  · simp only [o81_0, o81_1, o81_11, o81_20, o81_26, o81_27, o81_55, o82, o83, o84, o87, o89, o90, o97, o98, o99, o102, o103, o104, o122, o123, o124]; exact x.t_
  · simp only [o81_0, o81_1, o81_11, o81_20, o81_26, o81_27, o81_55, o82, o83, o84, o87, o89, o90, o97, o98, o99, o102, o103, o104, o122, o123, o124]; exact x.f_
  · simp only [o81_0, o81_1, o81_11, o81_20, o81_26, o81_27, o81_55, o82, o83, o84, o87, o89, o90, o97, o98, o99, o102, o103, o104, o122, o123, o124]; exact x.e_
  · simp only [o81_0, o81_1, o81_11, o81_20, o81_26, o81_27, o81_55, o82, o83, o84, o87, o89, o90, o97, o98, o99, o102, o103, o104, o122, o123, o124]; exact x.a_
  · simp only [o81_0, o81_1, o81_11, o81_20, o81_26, o81_27, o81_55, o82, o83, o84, o87, o89, o90, o97, o98, o99, o102, o103, o104, o122, o123, o124]; exact x.ki_
  · simp only [o81_0, o81_1, o81_11, o81_20, o81_26, o81_27, o81_55, o82, o83, o84, o87, o89, o90, o97, o98, o99, o102, o103, o104, o122, o123, o124]; exact x.re_
  · simp only [o81_0, o81_1, o81_11, o81_20, o81_26, o81_27, o81_55, o82, o83, o84, o87, o89, o90, o97, o98, o99, o102, o103, o104, o122, o123, o124]; exact x.pa_
  · intro k hk; rw [f_walkW_85]; split; exact x.wh_ _ (by have := f_rot_r (w := w) (j := k) (show 0 < (h 81 1).toNat by omega) (by assumption); omega); exact x.wh_ k hk
  · intro k hk; rw [o81_1] at hk ⊢; rw [f_walkW_86, if_pos (by omega)]; exact x.ha_ _ (by have := f_rot_r (w := w) (j := k) (show 0 < (h 81 1).toNat by omega) (by omega); omega)
  · intro j k hj hk; rw [o81_1] at hj hk; rw [f_walkW_86, f_walkW_86, if_pos (by omega), if_pos (by omega)]; intro e; exact f_rot_i (w := w) (n := (h 81 1).toNat) (by omega) (by omega) (x.hi_ _ _ (by have := f_rot_r (w := w) (j := j) (show 0 < (h 81 1).toNat by omega) (by omega); omega) (by have := f_rot_r (w := w) (j := k) (show 0 < (h 81 1).toNat by omega) (by omega); omega) e)
  · simp only [o81_0, o81_1, o81_11, o81_20, o81_26, o81_27, o81_55, o82, o83, o84, o87, o89, o90, o97, o98, o99, o102, o103, o104, o122, o123, o124]; exact x.co_
  · intro k hk; rw [f_walkW_88]; have h1 := x.le_ k hk; split; (have h2 := hl k (by assumption); omega); exact h1
  · simp only [o81_0, o81_1, o81_11, o81_20, o81_26, o81_27, o81_55, o82, o83, o84, o87, o89, o90, o97, o98, o99, o102, o103, o104, o122, o123, o124]; exact x.be_
  · simp only [o81_0, o81_1, o81_11, o81_20, o81_26, o81_27, o81_55, o82, o83, o84, o87, o89, o90, o97, o98, o99, o102, o103, o104, o122, o123, o124]; exact x.cc_
  · intro k hk; rw [f_walkW_14] at hk; rw [f_walkW_93, o81_1]; split; (exact ⟨Or.inr (by omega), fun q => by omega⟩); exact x.st_ k (by omega)
  · intro k hk; rw [f_walkW_94]; split; omega; exact x.mk_ k hk
  · intro k hk; rw [f_walkW_95]; split; (rename_i z; rw [f_walkW_86, if_pos (by omega)]; have := x.ha_ (f_rot (h 81 1).toNat w (k - 9 * (h 81 15).toNat)) (by have := f_rot_r (w := w) (j := k - 9 * (h 81 15).toNat) (show 0 < (h 81 1).toNat by omega) (by omega); omega); omega); exact x.cr_ k hk
  · intro k hk; rw [f_walkW_96]; split; (rename_i z; exact x.mk_ _ (by omega)); exact x.cm_ k hk
  · simp only [o81_0, o81_1, o81_11, o81_20, o81_26, o81_27, o81_55, o82, o83, o84, o87, o89, o90, o97, o98, o99, o102, o103, o104, o122, o123, o124]; exact x.t7_
  · simp only [o81_0, o81_1, o81_11, o81_20, o81_26, o81_27, o81_55, o82, o83, o84, o87, o89, o90, o97, o98, o99, o102, o103, o104, o122, o123, o124]; exact x.t8_
  · simp only [o81_0, o81_1, o81_11, o81_20, o81_26, o81_27, o81_55, o82, o83, o84, o87, o89, o90, o97, o98, o99, o102, o103, o104, o122, o123, o124]; exact x.t9_
  · simp only [o81_0, o81_1, o81_11, o81_20, o81_26, o81_27, o81_55, o82, o83, o84, o87, o89, o90, o97, o98, o99, o102, o103, o104, o122, o123, o124]; exact x.ma_
  · simp only [o81_0, o81_1, o81_11, o81_20, o81_26, o81_27, o81_55, o82, o83, o84, o87, o89, o90, o97, o98, o99, o102, o103, o104, o122, o123, o124]; exact x.to_
  · simp only [o81_0, o81_1, o81_11, o81_20, o81_26, o81_27, o81_55, o82, o83, o84, o87, o89, o90, o97, o98, o99, o102, o103, o104, o122, o123, o124]; exact x.tx_
  · simp only [o81_0, o81_1, o81_11, o81_20, o81_26, o81_27, o81_55, o82, o83, o84, o87, o89, o90, o97, o98, o99, o102, o103, o104, o122, o123, o124]; exact x.so_
  · simp only [o81_0, o81_1, o81_11, o81_20, o81_26, o81_27, o81_55, o82, o83, o84, o87, o89, o90, o97, o98, o99, o102, o103, o104, o122, o123, o124]; exact x.si_
  · simp only [o81_0, o81_1, o81_11, o81_20, o81_26, o81_27, o81_55, o82, o83, o84, o87, o89, o90, o97, o98, o99, o102, o103, o104, o122, o123, o124]; exact x.it_
theorem MI_walk {h : HT} (x : MI h) (w : Int) : MI (f_walk h w).2 := by
  have hn := x.n_
  have hd := x.d_
  have hs := x.s_
  have hr := x.r_
  unfold f_walk
  by_cases g1 : ¬ (0 ≤ w ∧ w ≤ 1)
  · rw [if_pos g1]; exact x
  rw [if_neg g1]
  by_cases g3 : h 81 11 = 0
  · rw [if_pos g3]; exact x
  rw [if_neg g3]
  by_cases g4 : ∃ k, k < (h 81 1).toNat ∧ h 88 k < 10 + (h 81 15).tdiv 3
  · rw [if_pos g4]; exact x
  rw [if_neg g4]
  by_cases g5 : h 81 14 = 300 ∨ h 81 15 = 100
  · rw [if_pos g5]; exact x
  rw [if_neg g5]
  exact MI_walkW x (by omega) (fun k k1 k2 => g4 ⟨k, k1, k2⟩) (by omega) (by omega) (by omega)
