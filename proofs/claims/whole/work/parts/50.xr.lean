/-! class and reference, held side by side -/
def XR (τ : TT) (h : HT) : Prop := (h 0 1 = h 81 0) ∧ (∀ k : Nat, (k : Int) < h 81 0 → ∃ o : Nat, τ.2.2.2 1 k = some o ∧ 126 ≤ o ∧ ob_ τ o 5 ∧ h o 0 = (k : Int) ∧ h o 1 = h 82 k ∧ h o 2 = h 83 k ∧ h o 3 = h 84 k) ∧ (h 2 1 = h 81 55) ∧ (∀ k : Nat, k < 20 → h 3 k = h 121 k) ∧ (∀ p : Nat, (p : Int) < h 81 1 → h 85 p = h 4 (h 86 p).toNat) ∧ (∀ k : Nat, k < 9 → -5 ≤ h 4 k ∧ h 4 k ≤ 15) ∧ (∀ k : Nat, k < 9 → h 5 k = h 87 k) ∧ (h 6 0 = h 81 1 ∧ h 6 1 = h 81 14 ∧ h 6 2 = h 81 15) ∧ (∀ p : Nat, (p : Int) < h 81 1 → h 7 p = h 86 p) ∧ (∀ k : Nat, (k : Int) < h 81 1 → h 8 k = h 88 k) ∧ (∀ p : Nat, (p : Int) < h 81 1 → h 9 p = h 94 p) ∧ (h 0 6 = h 81 11) ∧ (h 11 1 = h 81 14) ∧ (∀ k : Nat, (k : Int) < h 81 14 → h 12 k = h 93 k) ∧ (h 13 0 = h 81 1 ∧ h 13 1 = h 81 15) ∧ (∀ r p : Nat, (r : Int) < h 81 15 → (p : Int) < h 81 1 → h 14 (9 * r + p) = h 95 (9 * r + p) ∧ h 15 (9 * r + p) = h 96 (9 * r + p) ∧ h 16 (9 * r + p) = f_top h r p) ∧ (∀ k : Nat, k < 900 → (0 ≤ h 14 k ∧ h 14 k ≤ 8) ∧ (0 ≤ h 15 k ∧ h 15 k ≤ 2)) ∧ (∀ k : Nat, k < 9 → 0 ≤ h 17 k ∧ h 17 k ≤ 7) ∧ ((h 81 11 ≠ 0 ∨ h 81 15 ≠ 0) → ∀ k : Nat, (k : Int) < h 81 1 → h 17 k = h 90 k) ∧ (h 18 3 = h 81 20 ∧ ∀ k : Nat, k < 40 → h 19 k = h 97 k ∧ h 20 k = h 98 k ∧ h 21 k = h 99 k) ∧ (h 81 11 ≠ 0 → FT (h 81 1) h 24 (t_0 h)) ∧ (FGS τ h (h 81 26).toNat (figL h)) ∧ (h 39 3 = h 81 27 ∧ (∀ k : Nat, k < 80 → 0 ≤ h 41 k ∧ h 41 k ≤ 255) ∧ ∀ k : Nat, (k : Int) < h 81 27 → h 41 k = h 104 k % 256) ∧ (∀ t : Nat, t < 6 → h (69 + 2 * t) 0 = h 122 t ∧ h (69 + 2 * t) 1 = h 123 t ∧ ∀ i : Nat, (i : Int) < h 123 t → h (70 + 2 * t) i = h 124 (60 * t + i)) ∧ (h 81 11 = 0 → ∀ p : Nat, (p : Int) < h 81 1 → h 86 p = (p : Int)) ∧ (∀ t : Nat, t < 6 → h 122 t < 0 → h 123 t = 0) ∧ (f_cok h) ∧ (∀ j : Nat, j < 9 → 0 ≤ h 100 j ∧ h 100 j ≤ 7) ∧ ((τ.1 : Int) = 126 + h 81 0 + 2 * h 81 26)
theorem XR.pc_ {τ : TT} {h : HT} (y : XR τ h) : h 0 1 = h 81 0 := y.1
theorem XR.pe_ {τ : TT} {h : HT} (y : XR τ h) : ∀ k : Nat, (k : Int) < h 81 0 → ∃ o : Nat, τ.2.2.2 1 k = some o ∧ 126 ≤ o ∧ ob_ τ o 5 ∧ h o 0 = (k : Int) ∧ h o 1 = h 82 k ∧ h o 2 = h 83 k ∧ h o 3 = h 84 k := y.2.1
theorem XR.ra_ {τ : TT} {h : HT} (y : XR τ h) : h 2 1 = h 81 55 := y.2.2.1
theorem XR.tr_ {τ : TT} {h : HT} (y : XR τ h) : ∀ k : Nat, k < 20 → h 3 k = h 121 k := y.2.2.2.1
theorem XR.wh_ {τ : TT} {h : HT} (y : XR τ h) : ∀ p : Nat, (p : Int) < h 81 1 → h 85 p = h 4 (h 86 p).toNat := y.2.2.2.2.1
theorem XR.wr_ {τ : TT} {h : HT} (y : XR τ h) : ∀ k : Nat, k < 9 → -5 ≤ h 4 k ∧ h 4 k ≤ 15 := y.2.2.2.2.2.1
theorem XR.co_ {τ : TT} {h : HT} (y : XR τ h) : ∀ k : Nat, k < 9 → h 5 k = h 87 k := y.2.2.2.2.2.2.1
theorem XR.fn_ {τ : TT} {h : HT} (y : XR τ h) : h 6 0 = h 81 1 ∧ h 6 1 = h 81 14 ∧ h 6 2 = h 81 15 := y.2.2.2.2.2.2.2.1
theorem XR.or_ {τ : TT} {h : HT} (y : XR τ h) : ∀ p : Nat, (p : Int) < h 81 1 → h 7 p = h 86 p := y.2.2.2.2.2.2.2.2.1
theorem XR.le_ {τ : TT} {h : HT} (y : XR τ h) : ∀ k : Nat, (k : Int) < h 81 1 → h 8 k = h 88 k := y.2.2.2.2.2.2.2.2.2.1
theorem XR.mk_ {τ : TT} {h : HT} (y : XR τ h) : ∀ p : Nat, (p : Int) < h 81 1 → h 9 p = h 94 p := y.2.2.2.2.2.2.2.2.2.2.1
theorem XR.da_ {τ : TT} {h : HT} (y : XR τ h) : h 0 6 = h 81 11 := y.2.2.2.2.2.2.2.2.2.2.2.1
theorem XR.dc_ {τ : TT} {h : HT} (y : XR τ h) : h 11 1 = h 81 14 := y.2.2.2.2.2.2.2.2.2.2.2.2.1
theorem XR.dd_ {τ : TT} {h : HT} (y : XR τ h) : ∀ k : Nat, (k : Int) < h 81 14 → h 12 k = h 93 k := y.2.2.2.2.2.2.2.2.2.2.2.2.2.1
theorem XR.cn_ {τ : TT} {h : HT} (y : XR τ h) : h 13 0 = h 81 1 ∧ h 13 1 = h 81 15 := y.2.2.2.2.2.2.2.2.2.2.2.2.2.2.1
theorem XR.cl_ {τ : TT} {h : HT} (y : XR τ h) : ∀ r p : Nat, (r : Int) < h 81 15 → (p : Int) < h 81 1 → h 14 (9 * r + p) = h 95 (9 * r + p) ∧ h 15 (9 * r + p) = h 96 (9 * r + p) ∧ h 16 (9 * r + p) = f_top h r p := y.2.2.2.2.2.2.2.2.2.2.2.2.2.2.2.1
theorem XR.cr_ {τ : TT} {h : HT} (y : XR τ h) : ∀ k : Nat, k < 900 → (0 ≤ h 14 k ∧ h 14 k ≤ 8) ∧ (0 ≤ h 15 k ∧ h 15 k ≤ 2) := y.2.2.2.2.2.2.2.2.2.2.2.2.2.2.2.2.1
theorem XR.cc_ {τ : TT} {h : HT} (y : XR τ h) : ∀ k : Nat, k < 9 → 0 ≤ h 17 k ∧ h 17 k ≤ 7 := y.2.2.2.2.2.2.2.2.2.2.2.2.2.2.2.2.2.1
theorem XR.ce_ {τ : TT} {h : HT} (y : XR τ h) : (h 81 11 ≠ 0 ∨ h 81 15 ≠ 0) → ∀ k : Nat, (k : Int) < h 81 1 → h 17 k = h 90 k := y.2.2.2.2.2.2.2.2.2.2.2.2.2.2.2.2.2.2.1
theorem XR.pi_ {τ : TT} {h : HT} (y : XR τ h) : h 18 3 = h 81 20 ∧ ∀ k : Nat, k < 40 → h 19 k = h 97 k ∧ h 20 k = h 98 k ∧ h 21 k = h 99 k := y.2.2.2.2.2.2.2.2.2.2.2.2.2.2.2.2.2.2.2.1
theorem XR.sf_ {τ : TT} {h : HT} (y : XR τ h) : h 81 11 ≠ 0 → FT (h 81 1) h 24 (t_0 h) := y.2.2.2.2.2.2.2.2.2.2.2.2.2.2.2.2.2.2.2.2.1
theorem XR.fg_ {τ : TT} {h : HT} (y : XR τ h) : FGS τ h (h 81 26).toNat (figL h) := y.2.2.2.2.2.2.2.2.2.2.2.2.2.2.2.2.2.2.2.2.2.1
theorem XR.tx_ {τ : TT} {h : HT} (y : XR τ h) : h 39 3 = h 81 27 ∧ (∀ k : Nat, k < 80 → 0 ≤ h 41 k ∧ h 41 k ≤ 255) ∧ ∀ k : Nat, (k : Int) < h 81 27 → h 41 k = h 104 k % 256 := y.2.2.2.2.2.2.2.2.2.2.2.2.2.2.2.2.2.2.2.2.2.2.1
theorem XR.tp_ {τ : TT} {h : HT} (y : XR τ h) : ∀ t : Nat, t < 6 → h (69 + 2 * t) 0 = h 122 t ∧ h (69 + 2 * t) 1 = h 123 t ∧ ∀ i : Nat, (i : Int) < h 123 t → h (70 + 2 * t) i = h 124 (60 * t + i) := y.2.2.2.2.2.2.2.2.2.2.2.2.2.2.2.2.2.2.2.2.2.2.2.1
theorem XR.nd_ {τ : TT} {h : HT} (y : XR τ h) : h 81 11 = 0 → ∀ p : Nat, (p : Int) < h 81 1 → h 86 p = (p : Int) := y.2.2.2.2.2.2.2.2.2.2.2.2.2.2.2.2.2.2.2.2.2.2.2.2.1
theorem XR.sn_ {τ : TT} {h : HT} (y : XR τ h) : ∀ t : Nat, t < 6 → h 122 t < 0 → h 123 t = 0 := y.2.2.2.2.2.2.2.2.2.2.2.2.2.2.2.2.2.2.2.2.2.2.2.2.2.1
theorem XR.ok_ {τ : TT} {h : HT} (y : XR τ h) : f_cok h := y.2.2.2.2.2.2.2.2.2.2.2.2.2.2.2.2.2.2.2.2.2.2.2.2.2.2.1
theorem XR.gs_ {τ : TT} {h : HT} (y : XR τ h) : ∀ j : Nat, j < 9 → 0 ≤ h 100 j ∧ h 100 j ≤ 7 := y.2.2.2.2.2.2.2.2.2.2.2.2.2.2.2.2.2.2.2.2.2.2.2.2.2.2.2.1
theorem XR.sz_ {τ : TT} {h : HT} (y : XR τ h) : (τ.1 : Int) = 126 + h 81 0 + 2 * h 81 26 := y.2.2.2.2.2.2.2.2.2.2.2.2.2.2.2.2.2.2.2.2.2.2.2.2.2.2.2.2
def SIM (τ : TT) (h : HT) : Prop := TK τ ∧ MI h ∧ XR τ h
/-- what a call may leave behind, whatever it is -/
def SCR (a i : Nat) : Prop := a = 10 ∨ a = 28 ∨ (29 ≤ a ∧ a ≤ 38) ∨ (42 ≤ a ∧ a ≤ 67) ∨ a = 22 ∨ a = 23 ∨ (a = 18 ∧ i = 6) ∨ (a = 39 ∧ (i = 5 ∨ i = 7)) ∨ a = 91 ∨ a = 92 ∨ a = 100 ∨ a = 101 ∨ (105 ≤ a ∧ a ≤ 120) ∨ a = 125 ∨ (a = 103 ∧ 3000 ≤ i) ∨ (a = 102 ∧ i = 10) ∨ (a = 81 ∧ (i = 31 ∨ i = 32 ∨ i = 37 ∨ i = 38 ∨ i = 42 ∨ i = 43 ∨ i = 49 ∨ i = 54))
def KEEP (h h' : HT) : Prop := ∀ a i : Nat, ¬ SCR a i → h' a i = h a i
theorem KEEP.rf {h : HT} : KEEP h h := fun _ _ _ => rfl
theorem KEEP.tr {h g k : HT} (x : KEEP h g) (y : KEEP g k) : KEEP h k := fun a i q => (y a i q).trans (x a i q)
theorem f_top_k {h g : HT} {r p : Int} (e0 : g 81 1 = h 81 1) (e1 : ∀ k, g 95 k = h 95 k) (e2 : ∀ k, g 96 k = h 96 k) : f_top g r p = f_top h r p := by
  unfold f_top; rw [e0, e1, e1, e2, e2]
theorem figL_c {h g : HT} {f : Nat} (e1 : g 102 f = h 102 f) (e2 : ∀ k : Nat, (k : Int) < h 102 f → g 103 (300 * f + k) = h 103 (300 * f + k)) : figL g f = figL h f := by
  unfold figL
  rw [e1]
  apply List.map_congr_left
  intro k hk
  have := List.mem_range.mp hk
  exact e2 k (by omega)
theorem FGS.cg {τ : TT} {h : HT} {nf : Nat} {fig fig' : Nat → List Int} (x : FGS τ h nf fig) (e : ∀ f : Nat, f < nf → fig' f = fig f) : FGS τ h nf fig' := by
  refine ⟨x.1, x.2.1, fun f hf => ?_⟩
  rw [e f hf]; exact x.2.2 f hf
theorem MI.keep {h h' : HT} (x : MI h) (kp : KEEP h h') : MI h' := by
  have o81_0 : h' 81 0 = h 81 0 := kp 81 0 (by unfold SCR; omega)
  have o81_1 : h' 81 1 = h 81 1 := kp 81 1 (by unfold SCR; omega)
  have o81_11 : h' 81 11 = h 81 11 := kp 81 11 (by unfold SCR; omega)
  have o81_14 : h' 81 14 = h 81 14 := kp 81 14 (by unfold SCR; omega)
  have o81_15 : h' 81 15 = h 81 15 := kp 81 15 (by unfold SCR; omega)
  have o81_20 : h' 81 20 = h 81 20 := kp 81 20 (by unfold SCR; omega)
  have o81_26 : h' 81 26 = h 81 26 := kp 81 26 (by unfold SCR; omega)
  have o81_27 : h' 81 27 = h 81 27 := kp 81 27 (by unfold SCR; omega)
  have o81_55 : h' 81 55 = h 81 55 := kp 81 55 (by unfold SCR; omega)
  have o82 : ∀ k, h' 82 k = h 82 k := fun k => kp 82 k (by unfold SCR; omega)
  have o83 : ∀ k, h' 83 k = h 83 k := fun k => kp 83 k (by unfold SCR; omega)
  have o84 : ∀ k, h' 84 k = h 84 k := fun k => kp 84 k (by unfold SCR; omega)
  have o85 : ∀ k, h' 85 k = h 85 k := fun k => kp 85 k (by unfold SCR; omega)
  have o86 : ∀ k, h' 86 k = h 86 k := fun k => kp 86 k (by unfold SCR; omega)
  have o87 : ∀ k, h' 87 k = h 87 k := fun k => kp 87 k (by unfold SCR; omega)
  have o88 : ∀ k, h' 88 k = h 88 k := fun k => kp 88 k (by unfold SCR; omega)
  have o89 : ∀ k, h' 89 k = h 89 k := fun k => kp 89 k (by unfold SCR; omega)
  have o90 : ∀ k, h' 90 k = h 90 k := fun k => kp 90 k (by unfold SCR; omega)
  have o93 : ∀ k, h' 93 k = h 93 k := fun k => kp 93 k (by unfold SCR; omega)
  have o94 : ∀ k, h' 94 k = h 94 k := fun k => kp 94 k (by unfold SCR; omega)
  have o95 : ∀ k, h' 95 k = h 95 k := fun k => kp 95 k (by unfold SCR; omega)
  have o96 : ∀ k, h' 96 k = h 96 k := fun k => kp 96 k (by unfold SCR; omega)
  have o97 : ∀ k, h' 97 k = h 97 k := fun k => kp 97 k (by unfold SCR; omega)
  have o98 : ∀ k, h' 98 k = h 98 k := fun k => kp 98 k (by unfold SCR; omega)
  have o99 : ∀ k, h' 99 k = h 99 k := fun k => kp 99 k (by unfold SCR; omega)
  have o104 : ∀ k, h' 104 k = h 104 k := fun k => kp 104 k (by unfold SCR; omega)
  have o122 : ∀ k, h' 122 k = h 122 k := fun k => kp 122 k (by unfold SCR; omega)
  have o123 : ∀ k, h' 123 k = h 123 k := fun k => kp 123 k (by unfold SCR; omega)
  have o124 : ∀ k, h' 124 k = h 124 k := fun k => kp 124 k (by unfold SCR; omega)
  have f10 := x.f_
  have m300 := x.ma_
  refine ⟨?_, ?_, ?_, ?_, ?_, ?_, ?_, ?_, ?_, ?_, ?_, ?_, ?_, ?_, ?_, ?_, ?_, ?_, ?_, ?_, ?_, ?_, ?_, ?_, ?_, ?_, ?_, ?_, ?_, ?_, ?_, ?_⟩
  · simp only [o81_0, o81_1, o81_11, o81_14, o81_15, o81_20, o81_26, o81_27, o81_55, o82, o83, o84, o85, o86, o87, o88, o89, o90, o93, o94, o95, o96, o97, o98, o99, o104, o122, o123, o124]; exact x.p_
  · simp only [o81_0, o81_1, o81_11, o81_14, o81_15, o81_20, o81_26, o81_27, o81_55, o82, o83, o84, o85, o86, o87, o88, o89, o90, o93, o94, o95, o96, o97, o98, o99, o104, o122, o123, o124]; exact x.n_
  · simp only [o81_0, o81_1, o81_11, o81_14, o81_15, o81_20, o81_26, o81_27, o81_55, o82, o83, o84, o85, o86, o87, o88, o89, o90, o93, o94, o95, o96, o97, o98, o99, o104, o122, o123, o124]; exact x.d_
  · simp only [o81_0, o81_1, o81_11, o81_14, o81_15, o81_20, o81_26, o81_27, o81_55, o82, o83, o84, o85, o86, o87, o88, o89, o90, o93, o94, o95, o96, o97, o98, o99, o104, o122, o123, o124]; exact x.s_
  · simp only [o81_0, o81_1, o81_11, o81_14, o81_15, o81_20, o81_26, o81_27, o81_55, o82, o83, o84, o85, o86, o87, o88, o89, o90, o93, o94, o95, o96, o97, o98, o99, o104, o122, o123, o124]; exact x.r_
  · simp only [o81_0, o81_1, o81_11, o81_14, o81_15, o81_20, o81_26, o81_27, o81_55, o82, o83, o84, o85, o86, o87, o88, o89, o90, o93, o94, o95, o96, o97, o98, o99, o104, o122, o123, o124]; exact x.t_
  · simp only [o81_0, o81_1, o81_11, o81_14, o81_15, o81_20, o81_26, o81_27, o81_55, o82, o83, o84, o85, o86, o87, o88, o89, o90, o93, o94, o95, o96, o97, o98, o99, o104, o122, o123, o124]; exact x.f_
  · simp only [o81_0, o81_1, o81_11, o81_14, o81_15, o81_20, o81_26, o81_27, o81_55, o82, o83, o84, o85, o86, o87, o88, o89, o90, o93, o94, o95, o96, o97, o98, o99, o104, o122, o123, o124]; exact x.e_
  · simp only [o81_0, o81_1, o81_11, o81_14, o81_15, o81_20, o81_26, o81_27, o81_55, o82, o83, o84, o85, o86, o87, o88, o89, o90, o93, o94, o95, o96, o97, o98, o99, o104, o122, o123, o124]; exact x.a_
  · simp only [o81_0, o81_1, o81_11, o81_14, o81_15, o81_20, o81_26, o81_27, o81_55, o82, o83, o84, o85, o86, o87, o88, o89, o90, o93, o94, o95, o96, o97, o98, o99, o104, o122, o123, o124]; exact x.ki_
  · simp only [o81_0, o81_1, o81_11, o81_14, o81_15, o81_20, o81_26, o81_27, o81_55, o82, o83, o84, o85, o86, o87, o88, o89, o90, o93, o94, o95, o96, o97, o98, o99, o104, o122, o123, o124]; exact x.re_
  · simp only [o81_0, o81_1, o81_11, o81_14, o81_15, o81_20, o81_26, o81_27, o81_55, o82, o83, o84, o85, o86, o87, o88, o89, o90, o93, o94, o95, o96, o97, o98, o99, o104, o122, o123, o124]; exact x.pa_
  · simp only [o81_0, o81_1, o81_11, o81_14, o81_15, o81_20, o81_26, o81_27, o81_55, o82, o83, o84, o85, o86, o87, o88, o89, o90, o93, o94, o95, o96, o97, o98, o99, o104, o122, o123, o124]; exact x.wh_
  · simp only [o81_0, o81_1, o81_11, o81_14, o81_15, o81_20, o81_26, o81_27, o81_55, o82, o83, o84, o85, o86, o87, o88, o89, o90, o93, o94, o95, o96, o97, o98, o99, o104, o122, o123, o124]; exact x.ha_
  · simp only [o81_0, o81_1, o81_11, o81_14, o81_15, o81_20, o81_26, o81_27, o81_55, o82, o83, o84, o85, o86, o87, o88, o89, o90, o93, o94, o95, o96, o97, o98, o99, o104, o122, o123, o124]; exact x.hi_
  · simp only [o81_0, o81_1, o81_11, o81_14, o81_15, o81_20, o81_26, o81_27, o81_55, o82, o83, o84, o85, o86, o87, o88, o89, o90, o93, o94, o95, o96, o97, o98, o99, o104, o122, o123, o124]; exact x.co_
  · simp only [o81_0, o81_1, o81_11, o81_14, o81_15, o81_20, o81_26, o81_27, o81_55, o82, o83, o84, o85, o86, o87, o88, o89, o90, o93, o94, o95, o96, o97, o98, o99, o104, o122, o123, o124]; exact x.le_
  · simp only [o81_0, o81_1, o81_11, o81_14, o81_15, o81_20, o81_26, o81_27, o81_55, o82, o83, o84, o85, o86, o87, o88, o89, o90, o93, o94, o95, o96, o97, o98, o99, o104, o122, o123, o124]; exact x.be_
  · simp only [o81_0, o81_1, o81_11, o81_14, o81_15, o81_20, o81_26, o81_27, o81_55, o82, o83, o84, o85, o86, o87, o88, o89, o90, o93, o94, o95, o96, o97, o98, o99, o104, o122, o123, o124]; exact x.cc_
  · simp only [o81_0, o81_1, o81_11, o81_14, o81_15, o81_20, o81_26, o81_27, o81_55, o82, o83, o84, o85, o86, o87, o88, o89, o90, o93, o94, o95, o96, o97, o98, o99, o104, o122, o123, o124]; exact x.st_
  · simp only [o81_0, o81_1, o81_11, o81_14, o81_15, o81_20, o81_26, o81_27, o81_55, o82, o83, o84, o85, o86, o87, o88, o89, o90, o93, o94, o95, o96, o97, o98, o99, o104, o122, o123, o124]; exact x.mk_
  · simp only [o81_0, o81_1, o81_11, o81_14, o81_15, o81_20, o81_26, o81_27, o81_55, o82, o83, o84, o85, o86, o87, o88, o89, o90, o93, o94, o95, o96, o97, o98, o99, o104, o122, o123, o124]; exact x.cr_
  · simp only [o81_0, o81_1, o81_11, o81_14, o81_15, o81_20, o81_26, o81_27, o81_55, o82, o83, o84, o85, o86, o87, o88, o89, o90, o93, o94, o95, o96, o97, o98, o99, o104, o122, o123, o124]; exact x.cm_
  · simp only [o81_0, o81_1, o81_11, o81_14, o81_15, o81_20, o81_26, o81_27, o81_55, o82, o83, o84, o85, o86, o87, o88, o89, o90, o93, o94, o95, o96, o97, o98, o99, o104, o122, o123, o124]; exact x.t7_
  · simp only [o81_0, o81_1, o81_11, o81_14, o81_15, o81_20, o81_26, o81_27, o81_55, o82, o83, o84, o85, o86, o87, o88, o89, o90, o93, o94, o95, o96, o97, o98, o99, o104, o122, o123, o124]; exact x.t8_
  · simp only [o81_0, o81_1, o81_11, o81_14, o81_15, o81_20, o81_26, o81_27, o81_55, o82, o83, o84, o85, o86, o87, o88, o89, o90, o93, o94, o95, o96, o97, o98, o99, o104, o122, o123, o124]; exact x.t9_
  · intro k hk; rw [o81_26] at hk; rw [kp 102 k (by unfold SCR; omega)]; exact x.ma_ k hk
  · intro f k hf hk; rw [o81_26] at hf; rw [kp 102 f (by unfold SCR; omega)] at hk; have := m300 f hf; rw [kp 103 (300 * f + k) (by unfold SCR; omega)]; exact x.to_ f k hf hk
  · simp only [o81_0, o81_1, o81_11, o81_14, o81_15, o81_20, o81_26, o81_27, o81_55, o82, o83, o84, o85, o86, o87, o88, o89, o90, o93, o94, o95, o96, o97, o98, o99, o104, o122, o123, o124]; exact x.tx_
  · simp only [o81_0, o81_1, o81_11, o81_14, o81_15, o81_20, o81_26, o81_27, o81_55, o82, o83, o84, o85, o86, o87, o88, o89, o90, o93, o94, o95, o96, o97, o98, o99, o104, o122, o123, o124]; exact x.so_
  · simp only [o81_0, o81_1, o81_11, o81_14, o81_15, o81_20, o81_26, o81_27, o81_55, o82, o83, o84, o85, o86, o87, o88, o89, o90, o93, o94, o95, o96, o97, o98, o99, o104, o122, o123, o124]; exact x.si_
  · simp only [o81_0, o81_1, o81_11, o81_14, o81_15, o81_20, o81_26, o81_27, o81_55, o82, o83, o84, o85, o86, o87, o88, o89, o90, o93, o94, o95, o96, o97, o98, o99, o104, o122, o123, o124]; exact x.it_
theorem XR.keep {τ : TT} {h h' : HT} (x : MI h) (y : XR τ h) (kp : KEEP h h') (hg : ∀ j : Nat, j < 9 → 0 ≤ h' 100 j ∧ h' 100 j ≤ 7) : XR τ h' := by
  have o81_0 : h' 81 0 = h 81 0 := kp 81 0 (by unfold SCR; omega)
  have o81_1 : h' 81 1 = h 81 1 := kp 81 1 (by unfold SCR; omega)
  have o81_11 : h' 81 11 = h 81 11 := kp 81 11 (by unfold SCR; omega)
  have o81_14 : h' 81 14 = h 81 14 := kp 81 14 (by unfold SCR; omega)
  have o81_15 : h' 81 15 = h 81 15 := kp 81 15 (by unfold SCR; omega)
  have o81_20 : h' 81 20 = h 81 20 := kp 81 20 (by unfold SCR; omega)
  have o81_26 : h' 81 26 = h 81 26 := kp 81 26 (by unfold SCR; omega)
  have o81_27 : h' 81 27 = h 81 27 := kp 81 27 (by unfold SCR; omega)
  have o81_55 : h' 81 55 = h 81 55 := kp 81 55 (by unfold SCR; omega)
  have q0_1 : h' 0 1 = h 0 1 := kp 0 1 (by unfold SCR; omega)
  have q0_6 : h' 0 6 = h 0 6 := kp 0 6 (by unfold SCR; omega)
  have q2_1 : h' 2 1 = h 2 1 := kp 2 1 (by unfold SCR; omega)
  have q6_0 : h' 6 0 = h 6 0 := kp 6 0 (by unfold SCR; omega)
  have q6_1 : h' 6 1 = h 6 1 := kp 6 1 (by unfold SCR; omega)
  have q6_2 : h' 6 2 = h 6 2 := kp 6 2 (by unfold SCR; omega)
  have q11_1 : h' 11 1 = h 11 1 := kp 11 1 (by unfold SCR; omega)
  have q13_0 : h' 13 0 = h 13 0 := kp 13 0 (by unfold SCR; omega)
  have q13_1 : h' 13 1 = h 13 1 := kp 13 1 (by unfold SCR; omega)
  have q18_3 : h' 18 3 = h 18 3 := kp 18 3 (by unfold SCR; omega)
  have q39_1 : h' 39 1 = h 39 1 := kp 39 1 (by unfold SCR; omega)
  have q39_3 : h' 39 3 = h 39 3 := kp 39 3 (by unfold SCR; omega)
  have o82 : ∀ k, h' 82 k = h 82 k := fun k => kp 82 k (by unfold SCR; omega)
  have o83 : ∀ k, h' 83 k = h 83 k := fun k => kp 83 k (by unfold SCR; omega)
  have o84 : ∀ k, h' 84 k = h 84 k := fun k => kp 84 k (by unfold SCR; omega)
  have o85 : ∀ k, h' 85 k = h 85 k := fun k => kp 85 k (by unfold SCR; omega)
  have o86 : ∀ k, h' 86 k = h 86 k := fun k => kp 86 k (by unfold SCR; omega)
  have o87 : ∀ k, h' 87 k = h 87 k := fun k => kp 87 k (by unfold SCR; omega)
  have o88 : ∀ k, h' 88 k = h 88 k := fun k => kp 88 k (by unfold SCR; omega)
  have o89 : ∀ k, h' 89 k = h 89 k := fun k => kp 89 k (by unfold SCR; omega)
  have o90 : ∀ k, h' 90 k = h 90 k := fun k => kp 90 k (by unfold SCR; omega)
  have o93 : ∀ k, h' 93 k = h 93 k := fun k => kp 93 k (by unfold SCR; omega)
  have o94 : ∀ k, h' 94 k = h 94 k := fun k => kp 94 k (by unfold SCR; omega)
  have o95 : ∀ k, h' 95 k = h 95 k := fun k => kp 95 k (by unfold SCR; omega)
  have o96 : ∀ k, h' 96 k = h 96 k := fun k => kp 96 k (by unfold SCR; omega)
  have o97 : ∀ k, h' 97 k = h 97 k := fun k => kp 97 k (by unfold SCR; omega)
  have o98 : ∀ k, h' 98 k = h 98 k := fun k => kp 98 k (by unfold SCR; omega)
  have o99 : ∀ k, h' 99 k = h 99 k := fun k => kp 99 k (by unfold SCR; omega)
  have o104 : ∀ k, h' 104 k = h 104 k := fun k => kp 104 k (by unfold SCR; omega)
  have o122 : ∀ k, h' 122 k = h 122 k := fun k => kp 122 k (by unfold SCR; omega)
  have o123 : ∀ k, h' 123 k = h 123 k := fun k => kp 123 k (by unfold SCR; omega)
  have o124 : ∀ k, h' 124 k = h 124 k := fun k => kp 124 k (by unfold SCR; omega)
  have o3 : ∀ k, h' 3 k = h 3 k := fun k => kp 3 k (by unfold SCR; omega)
  have o4 : ∀ k, h' 4 k = h 4 k := fun k => kp 4 k (by unfold SCR; omega)
  have o5 : ∀ k, h' 5 k = h 5 k := fun k => kp 5 k (by unfold SCR; omega)
  have o7 : ∀ k, h' 7 k = h 7 k := fun k => kp 7 k (by unfold SCR; omega)
  have o8 : ∀ k, h' 8 k = h 8 k := fun k => kp 8 k (by unfold SCR; omega)
  have o9 : ∀ k, h' 9 k = h 9 k := fun k => kp 9 k (by unfold SCR; omega)
  have o12 : ∀ k, h' 12 k = h 12 k := fun k => kp 12 k (by unfold SCR; omega)
  have o14 : ∀ k, h' 14 k = h 14 k := fun k => kp 14 k (by unfold SCR; omega)
  have o15 : ∀ k, h' 15 k = h 15 k := fun k => kp 15 k (by unfold SCR; omega)
  have o16 : ∀ k, h' 16 k = h 16 k := fun k => kp 16 k (by unfold SCR; omega)
  have o17 : ∀ k, h' 17 k = h 17 k := fun k => kp 17 k (by unfold SCR; omega)
  have o19 : ∀ k, h' 19 k = h 19 k := fun k => kp 19 k (by unfold SCR; omega)
  have o20 : ∀ k, h' 20 k = h 20 k := fun k => kp 20 k (by unfold SCR; omega)
  have o21 : ∀ k, h' 21 k = h 21 k := fun k => kp 21 k (by unfold SCR; omega)
  have o41 : ∀ k, h' 41 k = h 41 k := fun k => kp 41 k (by unfold SCR; omega)
  have o121 : ∀ k, h' 121 k = h 121 k := fun k => kp 121 k (by unfold SCR; omega)
  have f10 := x.f_
  have m300 := x.ma_
  refine ⟨?_, ?_, ?_, ?_, ?_, ?_, ?_, ?_, ?_, ?_, ?_, ?_, ?_, ?_, ?_, ?_, ?_, ?_, ?_, ?_, ?_, ?_, ?_, ?_, ?_, ?_, ?_, ?_, ?_⟩
  · simp only [o81_0, o81_1, o81_11, o81_14, o81_15, o81_20, o81_26, o81_27, o81_55, q0_1, q0_6, q2_1, q6_0, q6_1, q6_2, q11_1, q13_0, q13_1, q18_3, q39_1, q39_3, o82, o83, o84, o85, o86, o87, o88, o89, o90, o93, o94, o95, o96, o97, o98, o99, o104, o122, o123, o124, o3, o4, o5, o7, o8, o9, o12, o14, o15, o16, o17, o19, o20, o21, o41, o121]; exact y.pc_
  · intro k hk; rw [o81_0] at hk; obtain ⟨o, p1, p2, p3, p4, p5, p6, p7⟩ := y.pe_ k hk; exact ⟨o, p1, p2, p3, by rw [kp o 0 (by unfold SCR; omega)]; exact p4, by rw [kp o 1 (by unfold SCR; omega), o82]; exact p5, by rw [kp o 2 (by unfold SCR; omega), o83]; exact p6, by rw [kp o 3 (by unfold SCR; omega), o84]; exact p7⟩
  · simp only [o81_0, o81_1, o81_11, o81_14, o81_15, o81_20, o81_26, o81_27, o81_55, q0_1, q0_6, q2_1, q6_0, q6_1, q6_2, q11_1, q13_0, q13_1, q18_3, q39_1, q39_3, o82, o83, o84, o85, o86, o87, o88, o89, o90, o93, o94, o95, o96, o97, o98, o99, o104, o122, o123, o124, o3, o4, o5, o7, o8, o9, o12, o14, o15, o16, o17, o19, o20, o21, o41, o121]; exact y.ra_
  · simp only [o81_0, o81_1, o81_11, o81_14, o81_15, o81_20, o81_26, o81_27, o81_55, q0_1, q0_6, q2_1, q6_0, q6_1, q6_2, q11_1, q13_0, q13_1, q18_3, q39_1, q39_3, o82, o83, o84, o85, o86, o87, o88, o89, o90, o93, o94, o95, o96, o97, o98, o99, o104, o122, o123, o124, o3, o4, o5, o7, o8, o9, o12, o14, o15, o16, o17, o19, o20, o21, o41, o121]; exact y.tr_
  · simp only [o81_0, o81_1, o81_11, o81_14, o81_15, o81_20, o81_26, o81_27, o81_55, q0_1, q0_6, q2_1, q6_0, q6_1, q6_2, q11_1, q13_0, q13_1, q18_3, q39_1, q39_3, o82, o83, o84, o85, o86, o87, o88, o89, o90, o93, o94, o95, o96, o97, o98, o99, o104, o122, o123, o124, o3, o4, o5, o7, o8, o9, o12, o14, o15, o16, o17, o19, o20, o21, o41, o121]; exact y.wh_
  · simp only [o81_0, o81_1, o81_11, o81_14, o81_15, o81_20, o81_26, o81_27, o81_55, q0_1, q0_6, q2_1, q6_0, q6_1, q6_2, q11_1, q13_0, q13_1, q18_3, q39_1, q39_3, o82, o83, o84, o85, o86, o87, o88, o89, o90, o93, o94, o95, o96, o97, o98, o99, o104, o122, o123, o124, o3, o4, o5, o7, o8, o9, o12, o14, o15, o16, o17, o19, o20, o21, o41, o121]; exact y.wr_
  · simp only [o81_0, o81_1, o81_11, o81_14, o81_15, o81_20, o81_26, o81_27, o81_55, q0_1, q0_6, q2_1, q6_0, q6_1, q6_2, q11_1, q13_0, q13_1, q18_3, q39_1, q39_3, o82, o83, o84, o85, o86, o87, o88, o89, o90, o93, o94, o95, o96, o97, o98, o99, o104, o122, o123, o124, o3, o4, o5, o7, o8, o9, o12, o14, o15, o16, o17, o19, o20, o21, o41, o121]; exact y.co_
  · simp only [o81_0, o81_1, o81_11, o81_14, o81_15, o81_20, o81_26, o81_27, o81_55, q0_1, q0_6, q2_1, q6_0, q6_1, q6_2, q11_1, q13_0, q13_1, q18_3, q39_1, q39_3, o82, o83, o84, o85, o86, o87, o88, o89, o90, o93, o94, o95, o96, o97, o98, o99, o104, o122, o123, o124, o3, o4, o5, o7, o8, o9, o12, o14, o15, o16, o17, o19, o20, o21, o41, o121]; exact y.fn_
  · simp only [o81_0, o81_1, o81_11, o81_14, o81_15, o81_20, o81_26, o81_27, o81_55, q0_1, q0_6, q2_1, q6_0, q6_1, q6_2, q11_1, q13_0, q13_1, q18_3, q39_1, q39_3, o82, o83, o84, o85, o86, o87, o88, o89, o90, o93, o94, o95, o96, o97, o98, o99, o104, o122, o123, o124, o3, o4, o5, o7, o8, o9, o12, o14, o15, o16, o17, o19, o20, o21, o41, o121]; exact y.or_
  · simp only [o81_0, o81_1, o81_11, o81_14, o81_15, o81_20, o81_26, o81_27, o81_55, q0_1, q0_6, q2_1, q6_0, q6_1, q6_2, q11_1, q13_0, q13_1, q18_3, q39_1, q39_3, o82, o83, o84, o85, o86, o87, o88, o89, o90, o93, o94, o95, o96, o97, o98, o99, o104, o122, o123, o124, o3, o4, o5, o7, o8, o9, o12, o14, o15, o16, o17, o19, o20, o21, o41, o121]; exact y.le_
  · simp only [o81_0, o81_1, o81_11, o81_14, o81_15, o81_20, o81_26, o81_27, o81_55, q0_1, q0_6, q2_1, q6_0, q6_1, q6_2, q11_1, q13_0, q13_1, q18_3, q39_1, q39_3, o82, o83, o84, o85, o86, o87, o88, o89, o90, o93, o94, o95, o96, o97, o98, o99, o104, o122, o123, o124, o3, o4, o5, o7, o8, o9, o12, o14, o15, o16, o17, o19, o20, o21, o41, o121]; exact y.mk_
  · simp only [o81_0, o81_1, o81_11, o81_14, o81_15, o81_20, o81_26, o81_27, o81_55, q0_1, q0_6, q2_1, q6_0, q6_1, q6_2, q11_1, q13_0, q13_1, q18_3, q39_1, q39_3, o82, o83, o84, o85, o86, o87, o88, o89, o90, o93, o94, o95, o96, o97, o98, o99, o104, o122, o123, o124, o3, o4, o5, o7, o8, o9, o12, o14, o15, o16, o17, o19, o20, o21, o41, o121]; exact y.da_
  · simp only [o81_0, o81_1, o81_11, o81_14, o81_15, o81_20, o81_26, o81_27, o81_55, q0_1, q0_6, q2_1, q6_0, q6_1, q6_2, q11_1, q13_0, q13_1, q18_3, q39_1, q39_3, o82, o83, o84, o85, o86, o87, o88, o89, o90, o93, o94, o95, o96, o97, o98, o99, o104, o122, o123, o124, o3, o4, o5, o7, o8, o9, o12, o14, o15, o16, o17, o19, o20, o21, o41, o121]; exact y.dc_
  · simp only [o81_0, o81_1, o81_11, o81_14, o81_15, o81_20, o81_26, o81_27, o81_55, q0_1, q0_6, q2_1, q6_0, q6_1, q6_2, q11_1, q13_0, q13_1, q18_3, q39_1, q39_3, o82, o83, o84, o85, o86, o87, o88, o89, o90, o93, o94, o95, o96, o97, o98, o99, o104, o122, o123, o124, o3, o4, o5, o7, o8, o9, o12, o14, o15, o16, o17, o19, o20, o21, o41, o121]; exact y.dd_
  · simp only [o81_0, o81_1, o81_11, o81_14, o81_15, o81_20, o81_26, o81_27, o81_55, q0_1, q0_6, q2_1, q6_0, q6_1, q6_2, q11_1, q13_0, q13_1, q18_3, q39_1, q39_3, o82, o83, o84, o85, o86, o87, o88, o89, o90, o93, o94, o95, o96, o97, o98, o99, o104, o122, o123, o124, o3, o4, o5, o7, o8, o9, o12, o14, o15, o16, o17, o19, o20, o21, o41, o121]; exact y.cn_
  · intro r p hr hp; rw [o81_15] at hr; rw [o81_1] at hp; rw [o14, o15, o16, o95, o96, f_top_k o81_1 o95 o96]; exact y.cl_ r p hr hp
  · simp only [o81_0, o81_1, o81_11, o81_14, o81_15, o81_20, o81_26, o81_27, o81_55, q0_1, q0_6, q2_1, q6_0, q6_1, q6_2, q11_1, q13_0, q13_1, q18_3, q39_1, q39_3, o82, o83, o84, o85, o86, o87, o88, o89, o90, o93, o94, o95, o96, o97, o98, o99, o104, o122, o123, o124, o3, o4, o5, o7, o8, o9, o12, o14, o15, o16, o17, o19, o20, o21, o41, o121]; exact y.cr_
  · simp only [o81_0, o81_1, o81_11, o81_14, o81_15, o81_20, o81_26, o81_27, o81_55, q0_1, q0_6, q2_1, q6_0, q6_1, q6_2, q11_1, q13_0, q13_1, q18_3, q39_1, q39_3, o82, o83, o84, o85, o86, o87, o88, o89, o90, o93, o94, o95, o96, o97, o98, o99, o104, o122, o123, o124, o3, o4, o5, o7, o8, o9, o12, o14, o15, o16, o17, o19, o20, o21, o41, o121]; exact y.cc_
  · simp only [o81_0, o81_1, o81_11, o81_14, o81_15, o81_20, o81_26, o81_27, o81_55, q0_1, q0_6, q2_1, q6_0, q6_1, q6_2, q11_1, q13_0, q13_1, q18_3, q39_1, q39_3, o82, o83, o84, o85, o86, o87, o88, o89, o90, o93, o94, o95, o96, o97, o98, o99, o104, o122, o123, o124, o3, o4, o5, o7, o8, o9, o12, o14, o15, o16, o17, o19, o20, o21, o41, o121]; exact y.ce_
  · simp only [o81_0, o81_1, o81_11, o81_14, o81_15, o81_20, o81_26, o81_27, o81_55, q0_1, q0_6, q2_1, q6_0, q6_1, q6_2, q11_1, q13_0, q13_1, q18_3, q39_1, q39_3, o82, o83, o84, o85, o86, o87, o88, o89, o90, o93, o94, o95, o96, o97, o98, o99, o104, o122, o123, o124, o3, o4, o5, o7, o8, o9, o12, o14, o15, o16, o17, o19, o20, o21, o41, o121]; exact y.pi_
  · intro hd; rw [o81_11] at hd; rw [o81_1, show t_0 h' = t_0 h from by unfold t_0; rw [show h' 89 = h 89 from funext o89]]; exact (y.sf_ hd).fr (fun b j b1 b2 => kp b j (by unfold SCR; omega))
  · rw [o81_26]; exact (y.fg_.fr q39_1 (fun a k ha => kp a k (by unfold SCR; omega))).cg (fun f hf => figL_c (kp 102 f (by unfold SCR; omega)) (fun k hk => kp 103 _ (by have := m300 f (by omega); unfold SCR; omega)))
  · simp only [o81_0, o81_1, o81_11, o81_14, o81_15, o81_20, o81_26, o81_27, o81_55, q0_1, q0_6, q2_1, q6_0, q6_1, q6_2, q11_1, q13_0, q13_1, q18_3, q39_1, q39_3, o82, o83, o84, o85, o86, o87, o88, o89, o90, o93, o94, o95, o96, o97, o98, o99, o104, o122, o123, o124, o3, o4, o5, o7, o8, o9, o12, o14, o15, o16, o17, o19, o20, o21, o41, o121]; exact y.tx_
  · intro t ht; have := y.tp_ t ht; rw [kp (69 + 2 * t) 0 (by unfold SCR; omega), kp (69 + 2 * t) 1 (by unfold SCR; omega), o122, o123]; refine ⟨this.1, this.2.1, fun i hi => ?_⟩; rw [kp (70 + 2 * t) i (by unfold SCR; omega), o124]; exact this.2.2 i hi
  · simp only [o81_0, o81_1, o81_11, o81_14, o81_15, o81_20, o81_26, o81_27, o81_55, q0_1, q0_6, q2_1, q6_0, q6_1, q6_2, q11_1, q13_0, q13_1, q18_3, q39_1, q39_3, o82, o83, o84, o85, o86, o87, o88, o89, o90, o93, o94, o95, o96, o97, o98, o99, o104, o122, o123, o124, o3, o4, o5, o7, o8, o9, o12, o14, o15, o16, o17, o19, o20, o21, o41, o121]; exact y.nd_
  · simp only [o81_0, o81_1, o81_11, o81_14, o81_15, o81_20, o81_26, o81_27, o81_55, q0_1, q0_6, q2_1, q6_0, q6_1, q6_2, q11_1, q13_0, q13_1, q18_3, q39_1, q39_3, o82, o83, o84, o85, o86, o87, o88, o89, o90, o93, o94, o95, o96, o97, o98, o99, o104, o122, o123, o124, o3, o4, o5, o7, o8, o9, o12, o14, o15, o16, o17, o19, o20, o21, o41, o121]; exact y.sn_
  · intro r p hr hp; rw [o81_15] at hr; rw [o81_1] at hp ⊢; rw [o95]; exact y.ok_ r p hr hp
  · exact hg
  · rw [o81_0, o81_26]; exact y.sz_
theorem SIM.keep {τ : TT} {h h' : HT} (s : SIM τ h) (kp : KEEP h h') (hg : ∀ j : Nat, j < 9 → 0 ≤ h' 100 j ∧ h' 100 j ≤ 7) : SIM τ h' := ⟨s.1, s.2.1.keep kp, s.2.2.keep s.2.1 kp hg⟩
/-- an operation: what the class answers the reference answers, and they stay side by side -/
def OPS (Mc Mr : MT) (K bc bs : Nat) (as : List AV) (τ : TT) (h : HT) : Prop := ∀ d : Nat, S_ Mc (d + K) bc bs (.inr (some 0) :: as) τ h (fun r τ1 h1 => ∃ v : Int, r = some (.inl v) ∧ TK τ1 ∧ ∀ e : Nat, S_ Mr (e + K) 0 0 (.inr (some 81) :: as) τ1 h1 (fun r2 τ2 h2 => r2 = some (.inl v) ∧ SIM τ2 h2))
/-- an operation that changes nothing that lasts -/
theorem OPS_q {Mc Mr : MT} {K : Nat} {as : List AV} {τ : TT} {h : HT} (s : SIM τ h) (P : Int → HT → Prop) (hc : ∀ d : Nat, S_ Mc (d + K) 0 0 (.inr (some 0) :: as) τ h (Zi τ fun v h1 => P v h1 ∧ KEEP h h1)) (hr : ∀ (d : Nat) (v : Int) (h1 : HT), P v h1 → KEEP h h1 → SIM τ h1 → S_ Mr (d + K) 0 0 (.inr (some 81) :: as) τ h1 (Zi τ fun w h2 => w = v ∧ KEEP h1 h2 ∧ ∀ j : Nat, j < 9 → 0 ≤ h2 100 j ∧ h2 100 j ≤ 7)) (h100 : ∀ v h1, P v h1 → KEEP h h1 → ∀ j, h1 100 j = h 100 j) : OPS Mc Mr K 0 0 as τ h := by
  intro d
  refine S_mono ?_ (hc d)
  rintro r τ1 h1 ⟨rfl, v, rfl, p1, p2⟩
  refine ⟨v, rfl, s.1, fun e => ?_⟩
  have s1 : SIM τ1 h1 := s.keep p2 (fun j hj => by rw [h100 v h1 p1 p2]; exact s.2.2.gs_ j hj)
  refine S_mono ?_ (hr e v h1 p1 p2 s1)
  rintro r2 τ2 h2 ⟨rfl, w, rfl, rfl, q2, q3⟩
  exact ⟨rfl, s1.keep q2 q3⟩
/-- one that changes nothing at all -/
theorem OPS_p {Mc Mr : MT} {K : Nat} {as : List AV} {τ : TT} {h : HT} (s : SIM τ h) (v : Int) (hc : ∀ d : Nat, S_ Mc (d + K) 0 0 (.inr (some 0) :: as) τ h (Zi τ fun w h1 => w = v ∧ h1 = h)) (hr : ∀ d : Nat, S_ Mr (d + K) 0 0 (.inr (some 81) :: as) τ h (Zi τ fun w h2 => w = v ∧ h2 = h)) : OPS Mc Mr K 0 0 as τ h := by
  intro d
  refine S_mono ?_ (hc d)
  rintro r τ1 h1 ⟨rfl, w, rfl, rfl, rfl⟩
  refine ⟨w, rfl, s.1, fun e => ?_⟩
  refine S_mono ?_ (hr e)
  rintro r2 τ2 h2 ⟨rfl, w2, rfl, rfl, rfl⟩
  exact ⟨rfl, s⟩
/-- one that changes nothing, its answer told by what holds of it -/
theorem OPS_u {Mc Mr : MT} {K : Nat} {as : List AV} {τ : TT} {h : HT} (s : SIM τ h) (P Q : Int → Prop) (hc : ∀ d : Nat, S_ Mc (d + K) 0 0 (.inr (some 0) :: as) τ h (Zi τ fun w h1 => P w ∧ h1 = h)) (hr : ∀ d : Nat, S_ Mr (d + K) 0 0 (.inr (some 81) :: as) τ h (Zi τ fun w h2 => Q w ∧ h2 = h)) (u : ∀ v w : Int, P v → Q w → w = v) : OPS Mc Mr K 0 0 as τ h := by
  intro d
  refine S_mono ?_ (hc d)
  rintro r τ1 h1 ⟨rfl, w, rfl, pw, rfl⟩
  refine ⟨w, rfl, s.1, fun e => ?_⟩
  refine S_mono ?_ (hr e)
  rintro r2 τ2 h2 ⟨rfl, w2, rfl, qw, rfl⟩
  exact ⟨by rw [u w w2 pw qw], s⟩
/-- one that changes what lasts, but makes nothing -/
theorem OPS_m {Mc Mr : MT} {K : Nat} {as : List AV} {τ : TT} {h : HT} (P : Int → HT → Prop) (hc : ∀ d : Nat, S_ Mc (d + K) 0 0 (.inr (some 0) :: as) τ h (Zi τ P)) (ht : ∀ (v : Int) (h1 : HT), P v h1 → TK τ) (hr : ∀ (d : Nat) (v : Int) (h1 : HT), P v h1 → S_ Mr (d + K) 0 0 (.inr (some 81) :: as) τ h1 (Zi τ fun w h2 => w = v ∧ SIM τ h2)) : OPS Mc Mr K 0 0 as τ h := by
  intro d
  refine S_mono ?_ (hc d)
  rintro r τ1 h1 ⟨rfl, v, rfl, p1⟩
  refine ⟨v, rfl, ht v h1 p1, fun e => ?_⟩
  refine S_mono ?_ (hr e v h1 p1)
  rintro r2 τ2 h2 ⟨rfl, w, rfl, rfl, q⟩
  exact ⟨rfl, q⟩
/-- the reference's cells are as they were -/
def RF (h h' : HT) : Prop := ∀ a i : Nat, 81 ≤ a → a ≤ 125 → h' a i = h a i
theorem RF.rf {h : HT} : RF h h := fun _ _ _ _ => rfl
theorem RF.tr {h g k : HT} (x : RF h g) (y : RF g k) : RF h k := fun a i p q => (y a i p q).trans (x a i p q)
theorem MI.ref {h h' : HT} (x : MI h) (rf : RF h h') : MI h' := by
  have o81_0 : h' 81 0 = h 81 0 := rf 81 0 (by decide) (by decide)
  have o81_1 : h' 81 1 = h 81 1 := rf 81 1 (by decide) (by decide)
  have o81_11 : h' 81 11 = h 81 11 := rf 81 11 (by decide) (by decide)
  have o81_14 : h' 81 14 = h 81 14 := rf 81 14 (by decide) (by decide)
  have o81_15 : h' 81 15 = h 81 15 := rf 81 15 (by decide) (by decide)
  have o81_20 : h' 81 20 = h 81 20 := rf 81 20 (by decide) (by decide)
  have o81_26 : h' 81 26 = h 81 26 := rf 81 26 (by decide) (by decide)
  have o81_27 : h' 81 27 = h 81 27 := rf 81 27 (by decide) (by decide)
  have o81_55 : h' 81 55 = h 81 55 := rf 81 55 (by decide) (by decide)
  have o82 : ∀ k, h' 82 k = h 82 k := fun k => rf 82 k (by decide) (by decide)
  have o83 : ∀ k, h' 83 k = h 83 k := fun k => rf 83 k (by decide) (by decide)
  have o84 : ∀ k, h' 84 k = h 84 k := fun k => rf 84 k (by decide) (by decide)
  have o85 : ∀ k, h' 85 k = h 85 k := fun k => rf 85 k (by decide) (by decide)
  have o86 : ∀ k, h' 86 k = h 86 k := fun k => rf 86 k (by decide) (by decide)
  have o87 : ∀ k, h' 87 k = h 87 k := fun k => rf 87 k (by decide) (by decide)
  have o88 : ∀ k, h' 88 k = h 88 k := fun k => rf 88 k (by decide) (by decide)
  have o89 : ∀ k, h' 89 k = h 89 k := fun k => rf 89 k (by decide) (by decide)
  have o90 : ∀ k, h' 90 k = h 90 k := fun k => rf 90 k (by decide) (by decide)
  have o93 : ∀ k, h' 93 k = h 93 k := fun k => rf 93 k (by decide) (by decide)
  have o94 : ∀ k, h' 94 k = h 94 k := fun k => rf 94 k (by decide) (by decide)
  have o95 : ∀ k, h' 95 k = h 95 k := fun k => rf 95 k (by decide) (by decide)
  have o96 : ∀ k, h' 96 k = h 96 k := fun k => rf 96 k (by decide) (by decide)
  have o97 : ∀ k, h' 97 k = h 97 k := fun k => rf 97 k (by decide) (by decide)
  have o98 : ∀ k, h' 98 k = h 98 k := fun k => rf 98 k (by decide) (by decide)
  have o99 : ∀ k, h' 99 k = h 99 k := fun k => rf 99 k (by decide) (by decide)
  have o102 : ∀ k, h' 102 k = h 102 k := fun k => rf 102 k (by decide) (by decide)
  have o103 : ∀ k, h' 103 k = h 103 k := fun k => rf 103 k (by decide) (by decide)
  have o104 : ∀ k, h' 104 k = h 104 k := fun k => rf 104 k (by decide) (by decide)
  have o122 : ∀ k, h' 122 k = h 122 k := fun k => rf 122 k (by decide) (by decide)
  have o123 : ∀ k, h' 123 k = h 123 k := fun k => rf 123 k (by decide) (by decide)
  have o124 : ∀ k, h' 124 k = h 124 k := fun k => rf 124 k (by decide) (by decide)
  refine ⟨?_, ?_, ?_, ?_, ?_, ?_, ?_, ?_, ?_, ?_, ?_, ?_, ?_, ?_, ?_, ?_, ?_, ?_, ?_, ?_, ?_, ?_, ?_, ?_, ?_, ?_, ?_, ?_, ?_, ?_, ?_, ?_⟩
  · simp only [o81_0, o81_1, o81_11, o81_14, o81_15, o81_20, o81_26, o81_27, o81_55, o82, o83, o84, o85, o86, o87, o88, o89, o90, o93, o94, o95, o96, o97, o98, o99, o102, o103, o104, o122, o123, o124]; exact x.p_
  · simp only [o81_0, o81_1, o81_11, o81_14, o81_15, o81_20, o81_26, o81_27, o81_55, o82, o83, o84, o85, o86, o87, o88, o89, o90, o93, o94, o95, o96, o97, o98, o99, o102, o103, o104, o122, o123, o124]; exact x.n_
  · simp only [o81_0, o81_1, o81_11, o81_14, o81_15, o81_20, o81_26, o81_27, o81_55, o82, o83, o84, o85, o86, o87, o88, o89, o90, o93, o94, o95, o96, o97, o98, o99, o102, o103, o104, o122, o123, o124]; exact x.d_
  · simp only [o81_0, o81_1, o81_11, o81_14, o81_15, o81_20, o81_26, o81_27, o81_55, o82, o83, o84, o85, o86, o87, o88, o89, o90, o93, o94, o95, o96, o97, o98, o99, o102, o103, o104, o122, o123, o124]; exact x.s_
  · simp only [o81_0, o81_1, o81_11, o81_14, o81_15, o81_20, o81_26, o81_27, o81_55, o82, o83, o84, o85, o86, o87, o88, o89, o90, o93, o94, o95, o96, o97, o98, o99, o102, o103, o104, o122, o123, o124]; exact x.r_
  · simp only [o81_0, o81_1, o81_11, o81_14, o81_15, o81_20, o81_26, o81_27, o81_55, o82, o83, o84, o85, o86, o87, o88, o89, o90, o93, o94, o95, o96, o97, o98, o99, o102, o103, o104, o122, o123, o124]; exact x.t_
  · simp only [o81_0, o81_1, o81_11, o81_14, o81_15, o81_20, o81_26, o81_27, o81_55, o82, o83, o84, o85, o86, o87, o88, o89, o90, o93, o94, o95, o96, o97, o98, o99, o102, o103, o104, o122, o123, o124]; exact x.f_
  · simp only [o81_0, o81_1, o81_11, o81_14, o81_15, o81_20, o81_26, o81_27, o81_55, o82, o83, o84, o85, o86, o87, o88, o89, o90, o93, o94, o95, o96, o97, o98, o99, o102, o103, o104, o122, o123, o124]; exact x.e_
  · simp only [o81_0, o81_1, o81_11, o81_14, o81_15, o81_20, o81_26, o81_27, o81_55, o82, o83, o84, o85, o86, o87, o88, o89, o90, o93, o94, o95, o96, o97, o98, o99, o102, o103, o104, o122, o123, o124]; exact x.a_
  · simp only [o81_0, o81_1, o81_11, o81_14, o81_15, o81_20, o81_26, o81_27, o81_55, o82, o83, o84, o85, o86, o87, o88, o89, o90, o93, o94, o95, o96, o97, o98, o99, o102, o103, o104, o122, o123, o124]; exact x.ki_
  · simp only [o81_0, o81_1, o81_11, o81_14, o81_15, o81_20, o81_26, o81_27, o81_55, o82, o83, o84, o85, o86, o87, o88, o89, o90, o93, o94, o95, o96, o97, o98, o99, o102, o103, o104, o122, o123, o124]; exact x.re_
  · simp only [o81_0, o81_1, o81_11, o81_14, o81_15, o81_20, o81_26, o81_27, o81_55, o82, o83, o84, o85, o86, o87, o88, o89, o90, o93, o94, o95, o96, o97, o98, o99, o102, o103, o104, o122, o123, o124]; exact x.pa_
  · simp only [o81_0, o81_1, o81_11, o81_14, o81_15, o81_20, o81_26, o81_27, o81_55, o82, o83, o84, o85, o86, o87, o88, o89, o90, o93, o94, o95, o96, o97, o98, o99, o102, o103, o104, o122, o123, o124]; exact x.wh_
  · simp only [o81_0, o81_1, o81_11, o81_14, o81_15, o81_20, o81_26, o81_27, o81_55, o82, o83, o84, o85, o86, o87, o88, o89, o90, o93, o94, o95, o96, o97, o98, o99, o102, o103, o104, o122, o123, o124]; exact x.ha_
  · simp only [o81_0, o81_1, o81_11, o81_14, o81_15, o81_20, o81_26, o81_27, o81_55, o82, o83, o84, o85, o86, o87, o88, o89, o90, o93, o94, o95, o96, o97, o98, o99, o102, o103, o104, o122, o123, o124]; exact x.hi_
  · simp only [o81_0, o81_1, o81_11, o81_14, o81_15, o81_20, o81_26, o81_27, o81_55, o82, o83, o84, o85, o86, o87, o88, o89, o90, o93, o94, o95, o96, o97, o98, o99, o102, o103, o104, o122, o123, o124]; exact x.co_
  · simp only [o81_0, o81_1, o81_11, o81_14, o81_15, o81_20, o81_26, o81_27, o81_55, o82, o83, o84, o85, o86, o87, o88, o89, o90, o93, o94, o95, o96, o97, o98, o99, o102, o103, o104, o122, o123, o124]; exact x.le_
  · simp only [o81_0, o81_1, o81_11, o81_14, o81_15, o81_20, o81_26, o81_27, o81_55, o82, o83, o84, o85, o86, o87, o88, o89, o90, o93, o94, o95, o96, o97, o98, o99, o102, o103, o104, o122, o123, o124]; exact x.be_
  · simp only [o81_0, o81_1, o81_11, o81_14, o81_15, o81_20, o81_26, o81_27, o81_55, o82, o83, o84, o85, o86, o87, o88, o89, o90, o93, o94, o95, o96, o97, o98, o99, o102, o103, o104, o122, o123, o124]; exact x.cc_
  · simp only [o81_0, o81_1, o81_11, o81_14, o81_15, o81_20, o81_26, o81_27, o81_55, o82, o83, o84, o85, o86, o87, o88, o89, o90, o93, o94, o95, o96, o97, o98, o99, o102, o103, o104, o122, o123, o124]; exact x.st_
  · simp only [o81_0, o81_1, o81_11, o81_14, o81_15, o81_20, o81_26, o81_27, o81_55, o82, o83, o84, o85, o86, o87, o88, o89, o90, o93, o94, o95, o96, o97, o98, o99, o102, o103, o104, o122, o123, o124]; exact x.mk_
  · simp only [o81_0, o81_1, o81_11, o81_14, o81_15, o81_20, o81_26, o81_27, o81_55, o82, o83, o84, o85, o86, o87, o88, o89, o90, o93, o94, o95, o96, o97, o98, o99, o102, o103, o104, o122, o123, o124]; exact x.cr_
  · simp only [o81_0, o81_1, o81_11, o81_14, o81_15, o81_20, o81_26, o81_27, o81_55, o82, o83, o84, o85, o86, o87, o88, o89, o90, o93, o94, o95, o96, o97, o98, o99, o102, o103, o104, o122, o123, o124]; exact x.cm_
  · simp only [o81_0, o81_1, o81_11, o81_14, o81_15, o81_20, o81_26, o81_27, o81_55, o82, o83, o84, o85, o86, o87, o88, o89, o90, o93, o94, o95, o96, o97, o98, o99, o102, o103, o104, o122, o123, o124]; exact x.t7_
  · simp only [o81_0, o81_1, o81_11, o81_14, o81_15, o81_20, o81_26, o81_27, o81_55, o82, o83, o84, o85, o86, o87, o88, o89, o90, o93, o94, o95, o96, o97, o98, o99, o102, o103, o104, o122, o123, o124]; exact x.t8_
  · simp only [o81_0, o81_1, o81_11, o81_14, o81_15, o81_20, o81_26, o81_27, o81_55, o82, o83, o84, o85, o86, o87, o88, o89, o90, o93, o94, o95, o96, o97, o98, o99, o102, o103, o104, o122, o123, o124]; exact x.t9_
  · simp only [o81_0, o81_1, o81_11, o81_14, o81_15, o81_20, o81_26, o81_27, o81_55, o82, o83, o84, o85, o86, o87, o88, o89, o90, o93, o94, o95, o96, o97, o98, o99, o102, o103, o104, o122, o123, o124]; exact x.ma_
  · simp only [o81_0, o81_1, o81_11, o81_14, o81_15, o81_20, o81_26, o81_27, o81_55, o82, o83, o84, o85, o86, o87, o88, o89, o90, o93, o94, o95, o96, o97, o98, o99, o102, o103, o104, o122, o123, o124]; exact x.to_
  · simp only [o81_0, o81_1, o81_11, o81_14, o81_15, o81_20, o81_26, o81_27, o81_55, o82, o83, o84, o85, o86, o87, o88, o89, o90, o93, o94, o95, o96, o97, o98, o99, o102, o103, o104, o122, o123, o124]; exact x.tx_
  · simp only [o81_0, o81_1, o81_11, o81_14, o81_15, o81_20, o81_26, o81_27, o81_55, o82, o83, o84, o85, o86, o87, o88, o89, o90, o93, o94, o95, o96, o97, o98, o99, o102, o103, o104, o122, o123, o124]; exact x.so_
  · simp only [o81_0, o81_1, o81_11, o81_14, o81_15, o81_20, o81_26, o81_27, o81_55, o82, o83, o84, o85, o86, o87, o88, o89, o90, o93, o94, o95, o96, o97, o98, o99, o102, o103, o104, o122, o123, o124]; exact x.si_
  · simp only [o81_0, o81_1, o81_11, o81_14, o81_15, o81_20, o81_26, o81_27, o81_55, o82, o83, o84, o85, o86, o87, o88, o89, o90, o93, o94, o95, o96, o97, o98, o99, o102, o103, o104, o122, o123, o124]; exact x.it_
/-- both told as functions -/
theorem OPS_f {Mc Mr : MT} {K : Nat} {as : List AV} {τ : TT} {h : HT} (x : MI h) (X : Int × HT) (F : HT → Int × HT) (hc : ∀ d : Nat, S_ Mc (d + K) 0 0 (.inr (some 0) :: as) τ h (Zi τ fun v h1 => v = X.1 ∧ h1 = X.2)) (rf : RF h X.2) (hr : ∀ d : Nat, MI X.2 → S_ Mr (d + K) 0 0 (.inr (some 81) :: as) τ X.2 (Zi τ fun v h2 => v = (F X.2).1 ∧ h2 = (F X.2).2)) (e : (F X.2).1 = X.1 ∧ SIM τ (F X.2).2) : OPS Mc Mr K 0 0 as τ h := by
  intro d
  refine S_mono ?_ (hc d)
  rintro r τ1 h1 ⟨rfl, v, rfl, rfl, rfl⟩
  refine ⟨X.1, rfl, e.2.1, fun e2 => ?_⟩
  refine S_mono ?_ (hr e2 (x.ref rf))
  rintro r2 τ2 h2 ⟨rfl, w, rfl, rfl, rfl⟩
  exact ⟨by rw [e.1], e.2⟩
