/-! rows of the judgement: numbers, locals, stack, branches -/
theorem gb_cat (B : BT) (v : AV) : (gb_tv B v).category = 1 := by
  rcases v with x | (_ | a) <;> rfl
theorem gb_cats (B : BT) (st : List AV) : ((st.map (gb_tv B)).map fun v => v.category).sum = st.length := by
  induction st with
  | nil => rfl
  | cons a l ih => simp only [List.map_cons, List.sum_cons, List.length_cons, gb_cat, ih]; omega
def gb_pl (B : BT) (ls : List (Option AV)) : List (Nat × Value) := (List.range ls.length).filterMap (fun i => match ls[i]? with
  | some (some v) => some (i, gb_tv B v)
  | _ => none)
theorem gb_pl_mem {B : BT} {ls : List (Option AV)} {q : Nat × Value} : q ∈ gb_pl B ls ↔ ∃ v, ls[q.1]? = some (some v) ∧ q.2 = gb_tv B v := by
  obtain ⟨i, x⟩ := q
  unfold gb_pl
  rw [List.mem_filterMap]
  constructor
  · rintro ⟨j, hj, he⟩
    split at he
    · rename_i v hv
      cases he
      exact ⟨v, hv, rfl⟩
    · cases he
  · rintro ⟨v, hv, rfl⟩
    refine ⟨i, List.mem_range.mpr (List.getElem?_eq_some_iff.mp hv).1, ?_⟩
    dsimp only at hv ⊢
    rw [hv]
theorem gb_LR_has {B : BT} {nL : Nat} {ls : List (Option AV)} {la : Array Slot} (hL : gb_LR B nL ls la) : lv_has la nL (gb_pl B ls) := by
  refine ⟨hL.1.1, hL.1.2.1, fun q hq => ?_⟩
  obtain ⟨v, h1, h2⟩ := gb_pl_mem.mp hq
  rw [h2]
  exact hL.2 _ _ h1
theorem gb_LR_st {B : BT} {nL i : Nat} {v : AV} {ls : List (Option AV)} {la : Array Slot} (h : lv_has la nL ((i, gb_tv B v) :: (gb_pl B ls).filter (fun q => !(q.1 == i) && !(q.1 + 1 == i && q.2.category == 2)))) : gb_LR B nL (ls.set i (some v)) la := by
  refine ⟨⟨h.1, h.2.1, fun q hq => by cases hq⟩, fun j w hj => ?_⟩
  rw [List.getElem?_set] at hj
  by_cases hi : i = j
  · subst hi
    rw [if_pos rfl] at hj
    by_cases hl : i < ls.length
    · rw [if_pos hl] at hj
      cases hj
      exact h.2.2 _ List.mem_cons_self
    · rw [if_neg hl] at hj
      cases hj
  · rw [if_neg hi] at hj
    refine h.2.2 (j, gb_tv B w) (List.mem_cons_of_mem _ (List.mem_filter.mpr ⟨gb_pl_mem.mpr ⟨w, hj, rfl⟩, ?_⟩))
    simp [gb_cat, Ne.symm hi]
theorem gb_ofInt {x : Int} (h : -2147483648 ≤ x ∧ x ≤ 2147483647) : (Int32.ofInt x).toInt = x := by
  rw [Int32.toInt_ofInt]
  have e : ((Int32.size : Nat) : Int) = 4294967296 := rfl
  apply Int.bmod_eq_of_le <;> omega
theorem gb_inj {x y : Int} (hx : -2147483648 ≤ x ∧ x ≤ 2147483647) (hy : -2147483648 ≤ y ∧ y ≤ 2147483647) : Int32.ofInt x = Int32.ofInt y ↔ x = y := by
  rw [← Int32.toInt_inj, gb_ofInt hx, gb_ofInt hy]
theorem gb_lt {x y : Int} (hx : -2147483648 ≤ x ∧ x ≤ 2147483647) (hy : -2147483648 ≤ y ∧ y ≤ 2147483647) : Int32.ofInt x < Int32.ofInt y ↔ x < y := by
  rw [Int32.lt_iff_toInt_lt, gb_ofInt hx, gb_ofInt hy]
theorem gb_le {x y : Int} (hx : -2147483648 ≤ x ∧ x ≤ 2147483647) (hy : -2147483648 ≤ y ∧ y ≤ 2147483647) : Int32.ofInt x ≤ Int32.ofInt y ↔ x ≤ y := by
  rw [Int32.le_iff_toInt_le, gb_ofInt hx, gb_ofInt hy]
theorem gb_0 : (0 : Int32) = Int32.ofInt 0 := by decide
theorem gb_r0 : -2147483648 ≤ (0 : Int) ∧ (0 : Int) ≤ 2147483647 := by decide
theorem gb_nat {x : Int} {n : Nat} (h0 : 0 ≤ x) (h : x < n) (hn : n < 2147483648) : (Int32.ofInt x).toNatClampNeg = x.toNat := by
  show (Int32.ofInt x).toInt.toNat = _
  rw [gb_ofInt (by omega)]
theorem gb_in {x : Int} {n : Nat} (h0 : 0 ≤ x) (h : x < n) (hn : n < 2147483648) : vp_in (Int32.ofInt x) n := by
  unfold vp_in
  rw [gb_nat h0 h hn, gb_0, gb_lt (by omega) gb_r0]
  omega
def b_and (a b : Int) : Int := (Int32.ofInt a &&& Int32.ofInt b).toInt
def b_or (a b : Int) : Int := (Int32.ofInt a ||| Int32.ofInt b).toInt
def b_xor (a b : Int) : Int := (Int32.ofInt a ^^^ Int32.ofInt b).toInt
def b_shl (a b : Int) : Int := (Int32.ofInt a <<< (Int32.ofInt b &&& 31)).toInt
def b_shr (a b : Int) : Int := (Int32.ofInt a >>> (Int32.ofInt b &&& 31)).toInt
def b_ushr (a b : Int) : Int := ((Int32.ofInt a).toUInt32 >>> ((Int32.ofInt b).toUInt32 &&& Int32.toUInt32 31)).toInt32.toInt
def b_i2b (a : Int) : Int := (Int32.ofInt a).toInt8.toInt32.toInt
def b_i2s (a : Int) : Int := (Int32.ofInt a).toInt16.toInt32.toInt
def b_i2c (a : Int) : Int := ((Int32.ofInt a).toUInt32 % 65536).toInt32.toInt
theorem gb_div {a b : Int} (ha : -2147483648 ≤ a ∧ a ≤ 2147483647) (hb : 0 < b ∧ b ≤ 2147483647) : Int32.ofInt a / Int32.ofInt b = Int32.ofInt (a.tdiv b) := by
  rw [← Int32.toInt_inj, Int32.toInt_div, gb_ofInt ha, gb_ofInt (by omega), Int32.toInt_ofInt]
section GR
variable {M : MT} {d bc bs pc : Nat} {ls : List (Option AV)} {st : List AV} {τ : TT} {h : HT} {Z : ZT}
theorem G_step {pc' : Nat} {st' : List AV} (hk : G_ M d bc bs pc' ls st' τ h Z)
    (hw : ∀ (B : BT) (p : Program) (l : Launch) (e : Env) (R : Room) (s : State) (m : MethodId) (args : Array Value) (below : List Frame) (meth : Method) (c : Code) (H : Heap) (locs : List Loc) (cells slots : Nat) (la : Array Slot) (Q : State → Prop), p.tables.exec = Jvm.exec → c.code = M.1 → s.vm.findClass M.2.1 = some m.cls → (∀ w ∈ gb_LW, w.before args s = true) → gb_LR B M.2.2.1 ls la →
      W p l e R s m args below meth c H locs cells slots Q (F0 m pc' la (st'.map (gb_tv B))) → W p l e R s m args below meth c H locs cells slots Q (F0 m pc la (st.map (gb_tv B)))) : G_ M d bc bs pc ls st τ h Z := by
  intro B p l e R s m args below meth c H locs cells slots cm sm la Q hC hR h1 h2 h3 h4 hL hE
  exact hw B p l e R s m args below meth c H locs cells slots la Q hC.1 hC.2.1 hC.2.2.2.1 hC.2.2.2.2.1 hL (hk B p l e R s m args below meth c H locs cells slots cm sm la Q hC hR h1 h2 h3 h4 hL hE)
theorem G_br {P : Prop} {pc1 pc2 : Nat} {st' : List AV} (k1 : P → G_ M d bc bs pc1 ls st' τ h Z) (k2 : ¬ P → G_ M d bc bs pc2 ls st' τ h Z)
    (hw : ∀ (B : BT) (p : Program) (l : Launch) (e : Env) (R : Room) (s : State) (m : MethodId) (args : Array Value) (below : List Frame) (meth : Method) (c : Code) (H : Heap) (locs : List Loc) (cells slots : Nat) (la : Array Slot) (Q : State → Prop), p.tables.exec = Jvm.exec → c.code = M.1 →
      (P → W p l e R s m args below meth c H locs cells slots Q (F0 m pc1 la (st'.map (gb_tv B)))) → (¬ P → W p l e R s m args below meth c H locs cells slots Q (F0 m pc2 la (st'.map (gb_tv B)))) → W p l e R s m args below meth c H locs cells slots Q (F0 m pc la (st.map (gb_tv B)))) : G_ M d bc bs pc ls st τ h Z := by
  intro B p l e R s m args below meth c H locs cells slots cm sm la Q hC hR h1 h2 h3 h4 hL hE
  exact hw B p l e R s m args below meth c H locs cells slots la Q hC.1 hC.2.1 (fun q => k1 q B p l e R s m args below meth c H locs cells slots cm sm la Q hC hR h1 h2 h3 h4 hL hE) (fun q => k2 q B p l e R s m args below meth c H locs cells slots cm sm la Q hC hR h1 h2 h3 h4 hL hE)
theorem G_iconst {n : Int} (hd : decode M.1 pc = .ok (.iconst n, 1)) (k : G_ M d bc bs (pc + 1) ls (.inl n :: st) τ h Z) : G_ M d bc bs pc ls st τ h Z :=
  G_step k fun B p l e R s m args below meth c H locs cells slots la Q hx hb ho ht hL hw => lv_iconst hx hb hd rfl hw
theorem G_bipush {n : Int} (hd : decode M.1 pc = .ok (.bipush n, 2)) (hn : (Int8.ofInt n).toInt32 = Int32.ofInt n) (k : G_ M d bc bs (pc + 2) ls (.inl n :: st) τ h Z) : G_ M d bc bs pc ls st τ h Z :=
  G_step k fun B p l e R s m args below meth c H locs cells slots la Q hx hb ho ht hL hw => lv_bipush hx hb hd hn hw
theorem G_sipush {n : Int} (hd : decode M.1 pc = .ok (.sipush n, 3)) (hn : (Int16.ofInt n).toInt32 = Int32.ofInt n) (k : G_ M d bc bs (pc + 3) ls (.inl n :: st) τ h Z) : G_ M d bc bs pc ls st τ h Z :=
  G_step k fun B p l e R s m args below meth c H locs cells slots la Q hx hb ho ht hL hw => lv_sipush hx hb hd hn hw
theorem G_ldc {n : Int} {i : Nat} (hc : Cond.constant M.2.1 i (Int32.ofInt n) ∈ gb_LW) (hd : decode M.1 pc = .ok (.ldc i, 2)) (k : G_ M d bc bs (pc + 2) ls (.inl n :: st) τ h Z) : G_ M d bc bs pc ls st τ h Z :=
  G_step k fun B p l e R s m args below meth c H locs cells slots la Q hx hb ho ht hL hw => lv_ldc hx hb ho (ht _ hc) hd hw
theorem G_ldcw {n : Int} {i : Nat} (hc : Cond.constant M.2.1 i (Int32.ofInt n) ∈ gb_LW) (hd : decode M.1 pc = .ok (.ldc_w i, 3)) (k : G_ M d bc bs (pc + 3) ls (.inl n :: st) τ h Z) : G_ M d bc bs pc ls st τ h Z :=
  G_step k fun B p l e R s m args below meth c H locs cells slots la Q hx hb ho ht hL hw => lv_ldcw hx hb ho (ht _ hc) hd hw
theorem G_null (hd : decode M.1 pc = .ok (.aconst_null, 1)) (k : G_ M d bc bs (pc + 1) ls (.inr none :: st) τ h Z) : G_ M d bc bs pc ls st τ h Z :=
  G_step k fun B p l e R s m args below meth c H locs cells slots la Q hx hb ho ht hL hw => lv_null hx hb hd hw
theorem G_iload_n {q : Fin 4} {i : Nat} {x : Int} (hd : decode M.1 pc = .ok (.iload_n q, 1)) (hi : (q : Nat) = i) (hl : ls[i]? = some (some (.inl x))) (k : G_ M d bc bs (pc + 1) ls (.inl x :: st) τ h Z) : G_ M d bc bs pc ls st τ h Z :=
  G_step k fun B p l e R s m args below meth c H locs cells slots la Q hx hb ho ht hL hw => lv_iload_n hx hb hd hi (hL.2 _ _ hl) hw
theorem G_iload {i : Nat} {x : Int} (hd : decode M.1 pc = .ok (.iload i, 2)) (hl : ls[i]? = some (some (.inl x))) (k : G_ M d bc bs (pc + 2) ls (.inl x :: st) τ h Z) : G_ M d bc bs pc ls st τ h Z :=
  G_step k fun B p l e R s m args below meth c H locs cells slots la Q hx hb ho ht hL hw => lv_iload hx hb hd (hL.2 _ _ hl) hw
theorem G_aload_n {q : Fin 4} {i : Nat} {x : Option Nat} (hd : decode M.1 pc = .ok (.aload_n q, 1)) (hi : (q : Nat) = i) (hl : ls[i]? = some (some (.inr x))) (k : G_ M d bc bs (pc + 1) ls (.inr x :: st) τ h Z) : G_ M d bc bs pc ls st τ h Z :=
  G_step k fun B p l e R s m args below meth c H locs cells slots la Q hx hb ho ht hL hw => by
    cases x with
    | none => exact lv_aload_nN hx hb hd hi (hL.2 _ _ hl) hw
    | some a => exact lv_aload_n hx hb hd hi (hL.2 _ _ hl) hw
theorem G_aload {i : Nat} {x : Option Nat} (hd : decode M.1 pc = .ok (.aload i, 2)) (hl : ls[i]? = some (some (.inr x))) (k : G_ M d bc bs (pc + 2) ls (.inr x :: st) τ h Z) : G_ M d bc bs pc ls st τ h Z :=
  G_step k fun B p l e R s m args below meth c H locs cells slots la Q hx hb ho ht hL hw => by
    cases x with
    | none => exact lv_aloadN hx hb hd (hL.2 _ _ hl) hw
    | some a => exact lv_aload hx hb hd (hL.2 _ _ hl) hw
theorem G_istore_n {q : Fin 4} {i : Nat} {x : Int} {ls' : List (Option AV)} (hd : decode M.1 pc = .ok (.istore_n q, 1)) (hi : (q : Nat) = i) (hn : i < M.2.2.1) (hl : ls.set i (some (.inl x)) = ls') (k : G_ M d bc bs (pc + 1) ls' st τ h Z) : G_ M d bc bs pc ls (.inl x :: st) τ h Z := by
  intro B p l e R s m args below meth c H locs cells slots cm sm la Q hC hR h1 h2 h3 h4 hL hE
  exact lv_istore_n hC.1 hC.2.1 hd hi (gb_LR_has hL) hn rfl (fun la' h' => k B p l e R s m args below meth c H locs cells slots cm sm la' Q hC hR h1 h2 h3 h4 (hl ▸ gb_LR_st (v := .inl x) h') hE)
theorem G_istore {i : Nat} {x : Int} {ls' : List (Option AV)} (hd : decode M.1 pc = .ok (.istore i, 2)) (hn : i < M.2.2.1) (hl : ls.set i (some (.inl x)) = ls') (k : G_ M d bc bs (pc + 2) ls' st τ h Z) : G_ M d bc bs pc ls (.inl x :: st) τ h Z := by
  intro B p l e R s m args below meth c H locs cells slots cm sm la Q hC hR h1 h2 h3 h4 hL hE
  exact lv_istore hC.1 hC.2.1 hd (gb_LR_has hL) hn rfl (fun la' h' => k B p l e R s m args below meth c H locs cells slots cm sm la' Q hC hR h1 h2 h3 h4 (hl ▸ gb_LR_st (v := .inl x) h') hE)
theorem G_astore_n {q : Fin 4} {i : Nat} {x : Option Nat} {ls' : List (Option AV)} (hd : decode M.1 pc = .ok (.astore_n q, 1)) (hi : (q : Nat) = i) (hn : i < M.2.2.1) (hl : ls.set i (some (.inr x)) = ls') (k : G_ M d bc bs (pc + 1) ls' st τ h Z) : G_ M d bc bs pc ls (.inr x :: st) τ h Z := by
  intro B p l e R s m args below meth c H locs cells slots cm sm la Q hC hR h1 h2 h3 h4 hL hE
  cases x with
  | none => exact lv_astore_nN hC.1 hC.2.1 hd hi (gb_LR_has hL) hn rfl (fun la' h' => k B p l e R s m args below meth c H locs cells slots cm sm la' Q hC hR h1 h2 h3 h4 (hl ▸ gb_LR_st (v := .inr none) h') hE)
  | some a => exact lv_astore_n hC.1 hC.2.1 hd hi (gb_LR_has hL) hn rfl (fun la' h' => k B p l e R s m args below meth c H locs cells slots cm sm la' Q hC hR h1 h2 h3 h4 (hl ▸ gb_LR_st (v := .inr (some a)) h') hE)
theorem G_astore {i : Nat} {x : Option Nat} {ls' : List (Option AV)} (hd : decode M.1 pc = .ok (.astore i, 2)) (hn : i < M.2.2.1) (hl : ls.set i (some (.inr x)) = ls') (k : G_ M d bc bs (pc + 2) ls' st τ h Z) : G_ M d bc bs pc ls (.inr x :: st) τ h Z := by
  intro B p l e R s m args below meth c H locs cells slots cm sm la Q hC hR h1 h2 h3 h4 hL hE
  cases x with
  | none => exact lv_astoreN hC.1 hC.2.1 hd (gb_LR_has hL) hn rfl (fun la' h' => k B p l e R s m args below meth c H locs cells slots cm sm la' Q hC hR h1 h2 h3 h4 (hl ▸ gb_LR_st (v := .inr none) h') hE)
  | some a => exact lv_astore hC.1 hC.2.1 hd (gb_LR_has hL) hn rfl (fun la' h' => k B p l e R s m args below meth c H locs cells slots cm sm la' Q hC hR h1 h2 h3 h4 (hl ▸ gb_LR_st (v := .inr (some a)) h') hE)
theorem G_iinc {i : Nat} {n x : Int} {ls' : List (Option AV)} (hd : decode M.1 pc = .ok (.iinc i n, 3)) (hn : i < M.2.2.1) (hx : ls[i]? = some (some (.inl x))) (hl : ls.set i (some (.inl (x + n))) = ls') (k : G_ M d bc bs (pc + 3) ls' st τ h Z) : G_ M d bc bs pc ls st τ h Z := by
  intro B p l e R s m args below meth c H locs cells slots cm sm la Q hC hR h1 h2 h3 h4 hL hE
  obtain ⟨j, hj⟩ := List.getElem?_of_mem (gb_pl_mem (B := B) (ls := ls) (q := (i, .int (Int32.ofInt x))).mpr ⟨_, hx, rfl⟩)
  exact lv_iinc (v := Int32.ofInt (x + n)) hC.1 hC.2.1 hd (gb_LR_has hL) hj (Int32.ofInt_add x n).symm hn rfl (fun la' h' => k B p l e R s m args below meth c H locs cells slots cm sm la' Q hC hR h1 h2 h3 h4 (hl ▸ gb_LR_st (v := .inl (x + n)) h') hE)
theorem G_iadd {a b : Int} (hd : decode M.1 pc = .ok (.iadd, 1)) (k : G_ M d bc bs (pc + 1) ls (.inl (a + b) :: st) τ h Z) : G_ M d bc bs pc ls (.inl b :: .inl a :: st) τ h Z :=
  G_step k fun B p l e R s m args below meth c H locs cells slots la Q hx hb ho ht hL hw => lv_iadd hx hb hd (by rw [← Int32.ofInt_add]; exact hw)
theorem G_isub {a b : Int} (hd : decode M.1 pc = .ok (.isub, 1)) (k : G_ M d bc bs (pc + 1) ls (.inl (a - b) :: st) τ h Z) : G_ M d bc bs pc ls (.inl b :: .inl a :: st) τ h Z :=
  G_step k fun B p l e R s m args below meth c H locs cells slots la Q hx hb ho ht hL hw => lv_isub hx hb hd (by rw [← Int32.ofInt_sub]; exact hw)
theorem G_imul {a b : Int} (hd : decode M.1 pc = .ok (.imul, 1)) (k : G_ M d bc bs (pc + 1) ls (.inl (a * b) :: st) τ h Z) : G_ M d bc bs pc ls (.inl b :: .inl a :: st) τ h Z :=
  G_step k fun B p l e R s m args below meth c H locs cells slots la Q hx hb ho ht hL hw => lv_imul hx hb hd (by rw [← Int32.ofInt_mul]; exact hw)
theorem G_ineg {a : Int} (hd : decode M.1 pc = .ok (.ineg, 1)) (k : G_ M d bc bs (pc + 1) ls (.inl (-a) :: st) τ h Z) : G_ M d bc bs pc ls (.inl a :: st) τ h Z :=
  G_step k fun B p l e R s m args below meth c H locs cells slots la Q hx hb ho ht hL hw => lv_ineg hx hb hd (by rw [← Int32.ofInt_neg]; exact hw)
theorem G_idiv {a b : Int} (hd : decode M.1 pc = .ok (.idiv, 1)) (ha : -2147483648 ≤ a ∧ a ≤ 2147483647) (hb' : 0 < b ∧ b ≤ 2147483647) (k : G_ M d bc bs (pc + 1) ls (.inl (a.tdiv b) :: st) τ h Z) : G_ M d bc bs pc ls (.inl b :: .inl a :: st) τ h Z :=
  G_step k fun B p l e R s m args below meth c H locs cells slots la Q hx hb ho ht hL hw => lv_idiv hx hb hd (by rw [gb_0, gb_inj (by omega) gb_r0]; omega) (by rw [gb_div ha hb']; exact hw)
theorem G_irem {a b : Int} (hd : decode M.1 pc = .ok (.irem, 1)) (ha : -2147483648 ≤ a ∧ a ≤ 2147483647) (hb' : 0 < b ∧ b ≤ 2147483647) (k : G_ M d bc bs (pc + 1) ls (.inl (a.tmod b) :: st) τ h Z) : G_ M d bc bs pc ls (.inl b :: .inl a :: st) τ h Z :=
  G_step k fun B p l e R s m args below meth c H locs cells slots la Q hx hb ho ht hL hw => lv_irem hx hb hd (by rw [gb_0, gb_inj (by omega) gb_r0]; omega) (by rw [gb_div ha hb', ← Int32.ofInt_mul, ← Int32.ofInt_sub, show a - a.tdiv b * b = a.tmod b by rw [Int.tmod_def, Int.mul_comm]]; exact hw)
theorem gb_oti (x : Int32) : Int32.ofInt x.toInt = x := by simp
theorem G_iand {a b : Int} (hd : decode M.1 pc = .ok (.iand, 1)) (k : G_ M d bc bs (pc + 1) ls (.inl (b_and a b) :: st) τ h Z) : G_ M d bc bs pc ls (.inl b :: .inl a :: st) τ h Z :=
  G_step k fun B p l e R s m args below meth c H locs cells slots la Q hx hb ho ht hL hw => lv_iand hx hb hd (by rw [← gb_oti (_ &&& _)]; exact hw)
theorem G_ior {a b : Int} (hd : decode M.1 pc = .ok (.ior, 1)) (k : G_ M d bc bs (pc + 1) ls (.inl (b_or a b) :: st) τ h Z) : G_ M d bc bs pc ls (.inl b :: .inl a :: st) τ h Z :=
  G_step k fun B p l e R s m args below meth c H locs cells slots la Q hx hb ho ht hL hw => lv_ior hx hb hd (by rw [← gb_oti (_ ||| _)]; exact hw)
theorem G_ixor {a b : Int} (hd : decode M.1 pc = .ok (.ixor, 1)) (k : G_ M d bc bs (pc + 1) ls (.inl (b_xor a b) :: st) τ h Z) : G_ M d bc bs pc ls (.inl b :: .inl a :: st) τ h Z :=
  G_step k fun B p l e R s m args below meth c H locs cells slots la Q hx hb ho ht hL hw => lv_ixor hx hb hd (by rw [← gb_oti (_ ^^^ _)]; exact hw)
theorem G_ishl {a b : Int} (hd : decode M.1 pc = .ok (.ishl, 1)) (k : G_ M d bc bs (pc + 1) ls (.inl (b_shl a b) :: st) τ h Z) : G_ M d bc bs pc ls (.inl b :: .inl a :: st) τ h Z :=
  G_step k fun B p l e R s m args below meth c H locs cells slots la Q hx hb ho ht hL hw => lv_ishl hx hb hd (by rw [← gb_oti (_ <<< _)]; exact hw)
theorem G_ishr {a b : Int} (hd : decode M.1 pc = .ok (.ishr, 1)) (k : G_ M d bc bs (pc + 1) ls (.inl (b_shr a b) :: st) τ h Z) : G_ M d bc bs pc ls (.inl b :: .inl a :: st) τ h Z :=
  G_step k fun B p l e R s m args below meth c H locs cells slots la Q hx hb ho ht hL hw => lv_ishr hx hb hd (by rw [← gb_oti (_ >>> _)]; exact hw)
theorem G_iushr {a b : Int} (hd : decode M.1 pc = .ok (.iushr, 1)) (k : G_ M d bc bs (pc + 1) ls (.inl (b_ushr a b) :: st) τ h Z) : G_ M d bc bs pc ls (.inl b :: .inl a :: st) τ h Z :=
  G_step k fun B p l e R s m args below meth c H locs cells slots la Q hx hb ho ht hL hw => lv_iushr (v := Int32.ofInt (b_ushr a b)) hx hb hd (gb_oti _).symm hw
theorem G_i2b {a : Int} (hd : decode M.1 pc = .ok (.i2b, 1)) (k : G_ M d bc bs (pc + 1) ls (.inl (b_i2b a) :: st) τ h Z) : G_ M d bc bs pc ls (.inl a :: st) τ h Z :=
  G_step k fun B p l e R s m args below meth c H locs cells slots la Q hx hb ho ht hL hw => lv_i2b (v := Int32.ofInt (b_i2b a)) hx hb hd (gb_oti _).symm hw
theorem G_i2s {a : Int} (hd : decode M.1 pc = .ok (.i2s, 1)) (k : G_ M d bc bs (pc + 1) ls (.inl (b_i2s a) :: st) τ h Z) : G_ M d bc bs pc ls (.inl a :: st) τ h Z :=
  G_step k fun B p l e R s m args below meth c H locs cells slots la Q hx hb ho ht hL hw => lv_i2s (v := Int32.ofInt (b_i2s a)) hx hb hd (gb_oti _).symm hw
theorem G_i2c {a : Int} (hd : decode M.1 pc = .ok (.i2c, 1)) (k : G_ M d bc bs (pc + 1) ls (.inl (b_i2c a) :: st) τ h Z) : G_ M d bc bs pc ls (.inl a :: st) τ h Z :=
  G_step k fun B p l e R s m args below meth c H locs cells slots la Q hx hb ho ht hL hw => lv_i2c (v := Int32.ofInt (b_i2c a)) hx hb hd (gb_oti _).symm hw
theorem G_dup {v : AV} (hd : decode M.1 pc = .ok (.dup, 1)) (k : G_ M d bc bs (pc + 1) ls (v :: v :: st) τ h Z) : G_ M d bc bs pc ls (v :: st) τ h Z :=
  G_step k fun B p l e R s m args below meth c H locs cells slots la Q hx hb ho ht hL hw => lv_dup hx hb hd (gb_cat B v) hw
theorem G_dup2 {v w : AV} (hd : decode M.1 pc = .ok (.dup2, 1)) (k : G_ M d bc bs (pc + 1) ls (v :: w :: v :: w :: st) τ h Z) : G_ M d bc bs pc ls (v :: w :: st) τ h Z :=
  G_step k fun B p l e R s m args below meth c H locs cells slots la Q hx hb ho ht hL hw => lv_dup2_11 hx hb hd (gb_cat B v) (gb_cat B w) hw
theorem G_pop {v : AV} (hd : decode M.1 pc = .ok (.pop, 1)) (k : G_ M d bc bs (pc + 1) ls st τ h Z) : G_ M d bc bs pc ls (v :: st) τ h Z :=
  G_step k fun B p l e R s m args below meth c H locs cells slots la Q hx hb ho ht hL hw => lv_pop hx hb hd (gb_cat B v) hw
theorem G_goto {off : Int} {tgt : Nat} (hd : decode M.1 pc = .ok (.goto off, 3)) (ht : (pc : Int) + off = (tgt : Int)) (k : G_ M d bc bs tgt ls st τ h Z) : G_ M d bc bs pc ls st τ h Z :=
  G_step k fun B p l e R s m args below meth c H locs cells slots la Q hx hb ho ht' hL hw => lv_goto hx hb hd ht hw
theorem G_ifnullS {a : Nat} {off : Int} (hd : decode M.1 pc = .ok (.ifnull off, 3)) (k : G_ M d bc bs (pc + 3) ls st τ h Z) : G_ M d bc bs pc ls (.inr (some a) :: st) τ h Z :=
  G_step k fun B p l e R s m args below meth c H locs cells slots la Q hx hb ho ht hL hw => lv_ifnull hx hb hd hw
theorem G_ifnullN {off : Int} {tgt : Nat} (hd : decode M.1 pc = .ok (.ifnull off, 3)) (ht : (pc : Int) + off = (tgt : Int)) (k : G_ M d bc bs tgt ls st τ h Z) : G_ M d bc bs pc ls (.inr none :: st) τ h Z :=
  G_step k fun B p l e R s m args below meth c H locs cells slots la Q hx hb ho ht' hL hw => lv_ifnullN hx hb hd ht hw
theorem G_ifnonnullS {a : Nat} {off : Int} {tgt : Nat} (hd : decode M.1 pc = .ok (.ifnonnull off, 3)) (ht : (pc : Int) + off = (tgt : Int)) (k : G_ M d bc bs tgt ls st τ h Z) : G_ M d bc bs pc ls (.inr (some a) :: st) τ h Z :=
  G_step k fun B p l e R s m args below meth c H locs cells slots la Q hx hb ho ht' hL hw => lv_ifnonnull hx hb hd ht hw
theorem G_ifnonnullN {off : Int} (hd : decode M.1 pc = .ok (.ifnonnull off, 3)) (k : G_ M d bc bs (pc + 3) ls st τ h Z) : G_ M d bc bs pc ls (.inr none :: st) τ h Z :=
  G_step k fun B p l e R s m args below meth c H locs cells slots la Q hx hb ho ht hL hw => lv_ifnonnullN hx hb hd hw
theorem G_icmp_lt {a b : Int} {off : Int} {tgt : Nat} (hd : decode M.1 pc = .ok (.if_icmp .lt off, 3)) (ht : (pc : Int) + off = (tgt : Int)) (ha : -2147483648 ≤ a ∧ a ≤ 2147483647) (hb' : -2147483648 ≤ b ∧ b ≤ 2147483647) (kt : a < b → G_ M d bc bs tgt ls st τ h Z) (kf : ¬ a < b → G_ M d bc bs (pc + 3) ls st τ h Z) : G_ M d bc bs pc ls (.inl b :: .inl a :: st) τ h Z :=
  G_br (P := a < b) (pc1 := tgt) (pc2 := pc + 3) kt kf fun B p l e R s m args below meth c H locs cells slots la Q hx hb h1 h2 => lv_icmp_lt hx hb hd ht (fun q => h1 ((gb_lt ha hb').mp (by first | exact q | (rw [← gb_0]; exact q)))) (fun q => h2 (fun z => q (by first | exact (gb_lt ha hb').mpr z | (rw [gb_0]; exact (gb_lt ha hb').mpr z))))
theorem G_if_lt {a : Int} {off : Int} {tgt : Nat} (hd : decode M.1 pc = .ok (.ifCond .lt off, 3)) (ht : (pc : Int) + off = (tgt : Int)) (ha : -2147483648 ≤ a ∧ a ≤ 2147483647) (kt : a < 0 → G_ M d bc bs tgt ls st τ h Z) (kf : ¬ a < 0 → G_ M d bc bs (pc + 3) ls st τ h Z) : G_ M d bc bs pc ls (.inl a :: st) τ h Z :=
  G_br (P := a < 0) (pc1 := tgt) (pc2 := pc + 3) kt kf fun B p l e R s m args below meth c H locs cells slots la Q hx hb h1 h2 => lv_if_lt hx hb hd ht (fun q => h1 ((gb_lt ha gb_r0).mp (by first | exact q | (rw [← gb_0]; exact q)))) (fun q => h2 (fun z => q (by first | exact (gb_lt ha gb_r0).mpr z | (rw [gb_0]; exact (gb_lt ha gb_r0).mpr z))))
theorem G_icmp_ge {a b : Int} {off : Int} {tgt : Nat} (hd : decode M.1 pc = .ok (.if_icmp .ge off, 3)) (ht : (pc : Int) + off = (tgt : Int)) (ha : -2147483648 ≤ a ∧ a ≤ 2147483647) (hb' : -2147483648 ≤ b ∧ b ≤ 2147483647) (kt : b ≤ a → G_ M d bc bs tgt ls st τ h Z) (kf : ¬ b ≤ a → G_ M d bc bs (pc + 3) ls st τ h Z) : G_ M d bc bs pc ls (.inl b :: .inl a :: st) τ h Z :=
  G_br (P := b ≤ a) (pc1 := tgt) (pc2 := pc + 3) kt kf fun B p l e R s m args below meth c H locs cells slots la Q hx hb h1 h2 => lv_icmp_ge hx hb hd ht (fun q => h1 ((gb_le hb' ha).mp (by first | exact q | (rw [← gb_0]; exact q)))) (fun q => h2 (fun z => q (by first | exact (gb_le hb' ha).mpr z | (rw [gb_0]; exact (gb_le hb' ha).mpr z))))
theorem G_if_ge {a : Int} {off : Int} {tgt : Nat} (hd : decode M.1 pc = .ok (.ifCond .ge off, 3)) (ht : (pc : Int) + off = (tgt : Int)) (ha : -2147483648 ≤ a ∧ a ≤ 2147483647) (kt : 0 ≤ a → G_ M d bc bs tgt ls st τ h Z) (kf : ¬ 0 ≤ a → G_ M d bc bs (pc + 3) ls st τ h Z) : G_ M d bc bs pc ls (.inl a :: st) τ h Z :=
  G_br (P := 0 ≤ a) (pc1 := tgt) (pc2 := pc + 3) kt kf fun B p l e R s m args below meth c H locs cells slots la Q hx hb h1 h2 => lv_if_ge hx hb hd ht (fun q => h1 ((gb_le gb_r0 ha).mp (by first | exact q | (rw [← gb_0]; exact q)))) (fun q => h2 (fun z => q (by first | exact (gb_le gb_r0 ha).mpr z | (rw [gb_0]; exact (gb_le gb_r0 ha).mpr z))))
theorem G_icmp_gt {a b : Int} {off : Int} {tgt : Nat} (hd : decode M.1 pc = .ok (.if_icmp .gt off, 3)) (ht : (pc : Int) + off = (tgt : Int)) (ha : -2147483648 ≤ a ∧ a ≤ 2147483647) (hb' : -2147483648 ≤ b ∧ b ≤ 2147483647) (kt : b < a → G_ M d bc bs tgt ls st τ h Z) (kf : ¬ b < a → G_ M d bc bs (pc + 3) ls st τ h Z) : G_ M d bc bs pc ls (.inl b :: .inl a :: st) τ h Z :=
  G_br (P := b < a) (pc1 := tgt) (pc2 := pc + 3) kt kf fun B p l e R s m args below meth c H locs cells slots la Q hx hb h1 h2 => lv_icmp_gt hx hb hd ht (fun q => h1 ((gb_lt hb' ha).mp (by first | exact q | (rw [← gb_0]; exact q)))) (fun q => h2 (fun z => q (by first | exact (gb_lt hb' ha).mpr z | (rw [gb_0]; exact (gb_lt hb' ha).mpr z))))
theorem G_if_gt {a : Int} {off : Int} {tgt : Nat} (hd : decode M.1 pc = .ok (.ifCond .gt off, 3)) (ht : (pc : Int) + off = (tgt : Int)) (ha : -2147483648 ≤ a ∧ a ≤ 2147483647) (kt : 0 < a → G_ M d bc bs tgt ls st τ h Z) (kf : ¬ 0 < a → G_ M d bc bs (pc + 3) ls st τ h Z) : G_ M d bc bs pc ls (.inl a :: st) τ h Z :=
  G_br (P := 0 < a) (pc1 := tgt) (pc2 := pc + 3) kt kf fun B p l e R s m args below meth c H locs cells slots la Q hx hb h1 h2 => lv_if_gt hx hb hd ht (fun q => h1 ((gb_lt gb_r0 ha).mp (by first | exact q | (rw [← gb_0]; exact q)))) (fun q => h2 (fun z => q (by first | exact (gb_lt gb_r0 ha).mpr z | (rw [gb_0]; exact (gb_lt gb_r0 ha).mpr z))))
theorem G_icmp_le {a b : Int} {off : Int} {tgt : Nat} (hd : decode M.1 pc = .ok (.if_icmp .le off, 3)) (ht : (pc : Int) + off = (tgt : Int)) (ha : -2147483648 ≤ a ∧ a ≤ 2147483647) (hb' : -2147483648 ≤ b ∧ b ≤ 2147483647) (kt : a ≤ b → G_ M d bc bs tgt ls st τ h Z) (kf : ¬ a ≤ b → G_ M d bc bs (pc + 3) ls st τ h Z) : G_ M d bc bs pc ls (.inl b :: .inl a :: st) τ h Z :=
  G_br (P := a ≤ b) (pc1 := tgt) (pc2 := pc + 3) kt kf fun B p l e R s m args below meth c H locs cells slots la Q hx hb h1 h2 => lv_icmp_le hx hb hd ht (fun q => h1 ((gb_le ha hb').mp (by first | exact q | (rw [← gb_0]; exact q)))) (fun q => h2 (fun z => q (by first | exact (gb_le ha hb').mpr z | (rw [gb_0]; exact (gb_le ha hb').mpr z))))
theorem G_if_le {a : Int} {off : Int} {tgt : Nat} (hd : decode M.1 pc = .ok (.ifCond .le off, 3)) (ht : (pc : Int) + off = (tgt : Int)) (ha : -2147483648 ≤ a ∧ a ≤ 2147483647) (kt : a ≤ 0 → G_ M d bc bs tgt ls st τ h Z) (kf : ¬ a ≤ 0 → G_ M d bc bs (pc + 3) ls st τ h Z) : G_ M d bc bs pc ls (.inl a :: st) τ h Z :=
  G_br (P := a ≤ 0) (pc1 := tgt) (pc2 := pc + 3) kt kf fun B p l e R s m args below meth c H locs cells slots la Q hx hb h1 h2 => lv_if_le hx hb hd ht (fun q => h1 ((gb_le ha gb_r0).mp (by first | exact q | (rw [← gb_0]; exact q)))) (fun q => h2 (fun z => q (by first | exact (gb_le ha gb_r0).mpr z | (rw [gb_0]; exact (gb_le ha gb_r0).mpr z))))
theorem G_icmp_eq {a b : Int} {off : Int} {tgt : Nat} (hd : decode M.1 pc = .ok (.if_icmp .eq off, 3)) (ht : (pc : Int) + off = (tgt : Int)) (ha : -2147483648 ≤ a ∧ a ≤ 2147483647) (hb' : -2147483648 ≤ b ∧ b ≤ 2147483647) (kt : a = b → G_ M d bc bs tgt ls st τ h Z) (kf : ¬ a = b → G_ M d bc bs (pc + 3) ls st τ h Z) : G_ M d bc bs pc ls (.inl b :: .inl a :: st) τ h Z :=
  G_br (P := a = b) (pc1 := tgt) (pc2 := pc + 3) kt kf fun B p l e R s m args below meth c H locs cells slots la Q hx hb h1 h2 => lv_icmp_eq hx hb hd ht (fun q => h1 ((gb_inj ha hb').mp (by first | exact q | (rw [← gb_0]; exact q)))) (fun q => h2 (fun z => q (by first | exact (gb_inj ha hb').mpr z | (rw [gb_0]; exact (gb_inj ha hb').mpr z))))
theorem G_if_eq {a : Int} {off : Int} {tgt : Nat} (hd : decode M.1 pc = .ok (.ifCond .eq off, 3)) (ht : (pc : Int) + off = (tgt : Int)) (ha : -2147483648 ≤ a ∧ a ≤ 2147483647) (kt : a = 0 → G_ M d bc bs tgt ls st τ h Z) (kf : ¬ a = 0 → G_ M d bc bs (pc + 3) ls st τ h Z) : G_ M d bc bs pc ls (.inl a :: st) τ h Z :=
  G_br (P := a = 0) (pc1 := tgt) (pc2 := pc + 3) kt kf fun B p l e R s m args below meth c H locs cells slots la Q hx hb h1 h2 => lv_if_eq hx hb hd ht (fun q => h1 ((gb_inj ha gb_r0).mp (by first | exact q | (rw [← gb_0]; exact q)))) (fun q => h2 (fun z => q (by first | exact (gb_inj ha gb_r0).mpr z | (rw [gb_0]; exact (gb_inj ha gb_r0).mpr z))))
theorem G_icmp_ne {a b : Int} {off : Int} {tgt : Nat} (hd : decode M.1 pc = .ok (.if_icmp .ne off, 3)) (ht : (pc : Int) + off = (tgt : Int)) (ha : -2147483648 ≤ a ∧ a ≤ 2147483647) (hb' : -2147483648 ≤ b ∧ b ≤ 2147483647) (kt : ¬ a = b → G_ M d bc bs tgt ls st τ h Z) (kf : a = b → G_ M d bc bs (pc + 3) ls st τ h Z) : G_ M d bc bs pc ls (.inl b :: .inl a :: st) τ h Z :=
  G_br (P := a = b) (pc1 := pc + 3) (pc2 := tgt) kf kt fun B p l e R s m args below meth c H locs cells slots la Q hx hb h1 h2 => lv_icmp_ne hx hb hd ht (fun q => h2 (fun z => q (by rw [gb_inj ha hb']; exact z))) (fun q => h1 (by first | exact ((gb_inj ha hb').mp (by simpa [gb_0] using q)) | exact Classical.byContradiction fun z => q (fun y => z ((gb_inj ha hb').mp y))))
theorem G_if_ne {a : Int} {off : Int} {tgt : Nat} (hd : decode M.1 pc = .ok (.ifCond .ne off, 3)) (ht : (pc : Int) + off = (tgt : Int)) (ha : -2147483648 ≤ a ∧ a ≤ 2147483647) (kt : ¬ a = 0 → G_ M d bc bs tgt ls st τ h Z) (kf : a = 0 → G_ M d bc bs (pc + 3) ls st τ h Z) : G_ M d bc bs pc ls (.inl a :: st) τ h Z :=
  G_br (P := a = 0) (pc1 := pc + 3) (pc2 := tgt) kf kt fun B p l e R s m args below meth c H locs cells slots la Q hx hb h1 h2 => lv_if_ne hx hb hd ht (fun q => h2 (fun z => q (by rw [gb_0, gb_inj ha gb_r0]; exact z))) (fun q => h1 (by first | exact ((gb_inj ha gb_r0).mp (by simpa [gb_0] using q)) | exact Classical.byContradiction fun z => q (fun y => z ((gb_inj ha gb_r0).mp y))))
end GR
