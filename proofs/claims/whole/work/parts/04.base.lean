/-! values, heaps and worlds as the proof sees them: an int is an integer (the machine holds it modulo 2^32), a reference a number of our own cells -/
abbrev AV : Type := Int ⊕ Option Nat
/-- how many cells, the kind of each (0 .. 12 a class, 13 int[], 14 nothing at all, 15 Person[], 16 Steps[], 17 Tape[]), the length of each array, the references -/
abbrev TT : Type := Nat × (Nat → Nat) × (Nat → Nat) × (Nat → Nat → Option Nat)
abbrev HT : Type := Nat → Nat → Int
/-- the first cell, classes and slots, the array classes, the cells of BODIES, KIND_ABOVE and of the script -/
abbrev BT : Type := Nat × va_G × (Nat → ClassId) × (Nat → Nat)
/-- a method: bytes, class, locals, return type, name -/
abbrev MT : Type := ByteArray × String × Nat × Option FieldType × MethodName
abbrev ZT : Type := Option AV → TT → HT → Prop
/-- the number 64 is no cell: where a cell lies, and which cell lies there -/
def gb_ps (k : Nat) : Nat := if k < 65 then k else k - 1
def gb_un (i : Nat) : Nat := if i < 64 then i else i + 1
def gb_ad (B : BT) (k : Nat) : Nat := if k < 1000000 then B.1 + gb_ps k else B.2.2.2 (k - 1000000)
def gb_tv (B : BT) : AV → Value
  | .inl x => .int (Int32.ofInt x)
  | .inr r => va_rf (r.map (gb_ad B))
def gb_ty (ci : Nat) : Nat → FieldType := match ci with
  | 0 => tyX0
  | 1 => tyX1
  | 2 => tyX2
  | 3 => tyX3
  | 4 => tyX4
  | 5 => tyX5
  | 6 => tyX6
  | 7 => tyX7
  | 8 => tyX8
  | 9 => tyX9
  | 10 => tyX10
  | 11 => tyX11
  | _ => tyX12
def gb_nsl (ci : Nat) : Nat := match ci with
  | 0 => 2
  | 1 => 6
  | 2 => 7
  | 3 => 7
  | 4 => 5
  | 5 => 4
  | 6 => 7
  | 7 => 8
  | 8 => 8
  | 9 => 2
  | 10 => 3
  | 11 => 19
  | _ => 61
def gb_isR (t : FieldType) : Bool := match t with
  | .object _ => true
  | .array _ => true
  | _ => false
def gb_fv (B : BT) (τ : TT) (h : HT) (a i : Nat) : Value := if gb_isR (gb_ty (τ.2.1 a) i) = true then va_rf ((τ.2.2.2 a i).map (gb_ad B)) else .int (Int32.ofInt (h a i))
def gb_fl (B : BT) (τ : TT) (h : HT) (a : Nat) : List Value := (List.range (gb_nsl (τ.2.1 a))).map (gb_fv B τ h a)
def gb_ent (B : BT) (τ : TT) (h : HT) (a : Nat) : va_E :=
  if τ.2.1 a < 13 then .inr (τ.2.1 a, gb_fl B τ h a)
  else if τ.2.1 a < 15 then .inl (B.2.2.1 (τ.2.1 a), τ.2.2.1 a, .inl (fun i => Int32.ofInt (h a i)))
  else .inl (B.2.2.1 (τ.2.1 a), τ.2.2.1 a, .inr (.inr (.inr (.inr (fun i => (τ.2.2.2 a i).map (gb_ad B))))))
def gb_w (B : BT) (τ : TT) (h : HT) : va_W := (List.range (gb_ps τ.1)).map (fun i => (gb_ad B (gb_un i), gb_ent B τ h (gb_un i)))
def gb_A (B : BT) : Nat → Prop := fun q => B.1 ≤ q
/-- a write of an int -/
def hs_ (h : HT) (a i : Nat) (v : Int) : HT := fun b j => if b = a ∧ j = i then v else h b j
def rs_ (r : Nat → Nat → Option Nat) (a i : Nat) (v : Option Nat) : Nat → Nat → Option Nat := fun b j => if b = a ∧ j = i then v else r b j
theorem hs_eq {h : HT} {a i : Nat} {v : Int} : hs_ h a i v a i = v := if_pos ⟨rfl, rfl⟩
theorem hs_na {h : HT} {a i b j : Nat} {v : Int} (hb : b ≠ a) : hs_ h a i v b j = h b j := if_neg fun q => hb q.1
theorem hs_ni {h : HT} {a i b j : Nat} {v : Int} (hb : j ≠ i) : hs_ h a i v b j = h b j := if_neg fun q => hb q.2
theorem gb_un_ps {a : Nat} (ha : a ≠ 64) : gb_un (gb_ps a) = a := by
  unfold gb_un gb_ps
  by_cases h : a < 65
  · rw [if_pos h, if_pos (by omega)]
  · rw [if_neg h, if_neg (by omega)]; omega
theorem gb_ps_un {i : Nat} : gb_ps (gb_un i) = i := by
  unfold gb_un gb_ps
  by_cases h : i < 64
  · rw [if_pos h, if_pos (by omega)]
  · rw [if_neg h, if_neg (by omega)]; omega
theorem gb_ps_lt {a b : Nat} (ha : a ≠ 64) (h : a < b) : gb_ps a < gb_ps b := by
  unfold gb_ps
  by_cases h1 : a < 65
  · rw [if_pos h1]
    by_cases h2 : b < 65
    · rw [if_pos h2]; exact h
    · rw [if_neg h2]; omega
  · rw [if_neg h1, if_neg (by omega)]; omega
theorem gb_ps_s {a : Nat} (ha : a ≠ 64) : gb_ps (a + 1) = gb_ps a + 1 := by
  unfold gb_ps
  by_cases h1 : a < 65
  · rw [if_pos h1, if_pos (by omega)]
  · rw [if_neg h1, if_neg (by omega)]; omega
theorem gb_un_lt {i b : Nat} (h : i < gb_ps b) : gb_un i < b := by
  unfold gb_ps at h
  unfold gb_un
  by_cases h1 : b < 65
  · rw [if_pos h1] at h
    by_cases h2 : i < 64
    · rw [if_pos h2]; exact h
    · omega
  · rw [if_neg h1] at h
    by_cases h2 : i < 64
    · rw [if_pos h2]; omega
    · rw [if_neg h2]; omega
theorem gb_w_get {B : BT} {τ : TT} {h : HT} {a : Nat} (ha : a < τ.1) (hg : a ≠ 64) : (gb_w B τ h)[gb_ps a]? = some (gb_ad B a, gb_ent B τ h a) := by
  have e := gb_un_ps hg
  have l := gb_ps_lt hg ha
  simp [gb_w, l, e]
theorem gb_w_set {B : BT} {τ τ' : TT} {h h' : HT} {a : Nat} {e : va_E} (ha : a < τ.1) (hg : a ≠ 64) (h1 : τ'.1 = τ.1) (he : gb_ent B τ' h' a = e) (ho : ∀ b, b ≠ a → gb_ent B τ' h' b = gb_ent B τ h b) : (gb_w B τ h).set (gb_ps a) (gb_ad B a, e) = gb_w B τ' h' := by
  have eu := gb_un_ps hg
  have l := gb_ps_lt hg ha
  apply List.ext_getElem?
  intro i
  rw [List.getElem?_set]
  unfold gb_w
  rw [h1]
  by_cases hi : gb_ps a = i
  · subst hi
    simp [l, he, eu]
  · rw [if_neg hi]
    simp only [List.getElem?_map]
    by_cases hl : i < gb_ps τ.1
    · have hn : gb_un i ≠ a := fun q => hi (by rw [← q]; exact gb_ps_un)
      simp [hl, ho _ hn]
    · simp [hl]
theorem gb_w_push {B : BT} {τ τ' : TT} {h h' : HT} {e : va_E} (hg : τ.1 ≠ 64) (h1 : τ'.1 = τ.1 + 1) (he : gb_ent B τ' h' τ.1 = e) (ho : ∀ b, b < τ.1 → gb_ent B τ' h' b = gb_ent B τ h b) : gb_w B τ h ++ [(gb_ad B τ.1, e)] = gb_w B τ' h' := by
  unfold gb_w
  rw [h1, gb_ps_s hg, List.range_succ, List.map_append]
  simp only [List.map_cons, List.map_nil, gb_un_ps hg, he]
  congr 1
  apply List.map_congr_left
  intro b hb
  rw [ho _ (gb_un_lt (List.mem_range.mp hb))]
theorem gb_w_no {B : BT} {τ τ' : TT} {h : HT} (hg : τ.1 = 64) (h1 : τ'.1 = 65) (ho : ∀ b, b < τ.1 → gb_ent B τ' h b = gb_ent B τ h b) : gb_w B τ h = gb_w B τ' h := by
  unfold gb_w
  rw [h1, hg, show gb_ps 65 = gb_ps 64 from rfl]
  apply List.map_congr_left
  intro b hb
  rw [ho _ (by rw [hg]; exact gb_un_lt (List.mem_range.mp hb))]
/-- an int field, read and written -/
theorem gb_fl_get {B : BT} {τ : TT} {h : HT} {a i : Nat} (hi : i < gb_nsl (τ.2.1 a)) : (gb_fl B τ h a)[i]? = some (gb_fv B τ h a i) := by
  simp [gb_fl, hi]
theorem gb_ent_o {B : BT} {τ : TT} {h : HT} {a ci : Nat} (hk : τ.2.1 a = ci) (hc : ci < 13) : gb_ent B τ h a = .inr (ci, gb_fl B τ h a) := by
  unfold gb_ent
  rw [hk, if_pos hc]
theorem gb_ent_i {B : BT} {τ : TT} {h : HT} {a ci : Nat} (hk : τ.2.1 a = ci) (hc : ¬ ci < 13) (hd : ci < 15) : gb_ent B τ h a = .inl (B.2.2.1 ci, τ.2.2.1 a, .inl (fun i => Int32.ofInt (h a i))) := by
  unfold gb_ent
  rw [hk, if_neg hc, if_pos hd]
theorem gb_ent_r {B : BT} {τ : TT} {h : HT} {a ci : Nat} (hk : τ.2.1 a = ci) (hd : ¬ ci < 15) : gb_ent B τ h a = .inl (B.2.2.1 ci, τ.2.2.1 a, .inr (.inr (.inr (.inr (fun i => (τ.2.2.2 a i).map (gb_ad B)))))) := by
  unfold gb_ent
  rw [hk, if_neg (by omega), if_neg hd]
theorem gb_ent_ne {B : BT} {τ : TT} {h h' : HT} {b : Nat} (hh : ∀ i, h' b i = h b i) : gb_ent B τ h' b = gb_ent B τ h b := by
  unfold gb_ent gb_fl
  have e1 : gb_fv B τ h' b = gb_fv B τ h b := by
    funext i
    unfold gb_fv
    rw [hh i]
  rw [e1]
  simp only [hh]
theorem gb_fl_set {B : BT} {τ : TT} {h : HT} {a i : Nat} {v : Int} (hr : gb_isR (gb_ty (τ.2.1 a) i) = false) : (gb_fl B τ h a).set i (.int (Int32.ofInt v)) = gb_fl B τ (hs_ h a i v) a := by
  apply List.ext_getElem?
  intro j
  rw [List.getElem?_set]
  by_cases hj : i = j
  · subst hj
    by_cases hl : i < gb_nsl (τ.2.1 a)
    · simp [gb_fl, hl, gb_fv, hr, hs_]
    · simp [gb_fl, hl]
  · rw [if_neg hj]
    by_cases hl : j < gb_nsl (τ.2.1 a)
    · simp [gb_fl, hl, gb_fv, hs_, Ne.symm hj]
    · simp [gb_fl, hl]
/-- the words that go with every method: those of the tables that keep -/
def gb_LW : List Cond := lw_tbl.filter goodWord
def gb_NM : List (String × Nat × MethodName × String) := [("MaypoleGreen", 21, ⟨"MaypoleGreen$Acts", "<init>", "()V"⟩, "MaypoleGreen"), ("MaypoleGreen", 35, ⟨"MaypoleGreen$Floor", "<init>", "()V"⟩, "MaypoleGreen"), ("MaypoleGreen", 55, ⟨"MaypoleGreen$Cloth", "<init>", "()V"⟩, "MaypoleGreen"), ("MaypoleGreen", 62, ⟨"MaypoleGreen$Picture", "<init>", "()V"⟩, "MaypoleGreen"), ("MaypoleGreen", 78, ⟨"MaypoleGreen$Reader", "<init>", "()V"⟩, "MaypoleGreen"), ("MaypoleGreen", 85, ⟨"MaypoleGreen$Form", "<init>", "()V"⟩, "MaypoleGreen"), ("MaypoleGreen", 95, ⟨"MaypoleGreen$Orders", "<init>", "()V"⟩, "MaypoleGreen"), ("MaypoleGreen", 102, ⟨"MaypoleGreen$Seating", "<init>", "()V"⟩, "MaypoleGreen"), ("MaypoleGreen", 113, ⟨"MaypoleGreen$Tape", "<init>", "()V"⟩, "MaypoleGreen"), ("MaypoleGreen$Floor", 63, ⟨"MaypoleGreen", "behind", "(II)I"⟩, "MaypoleGreen"), ("MaypoleGreen$Cloth", 54, ⟨"MaypoleGreen", "ahead", "(II)I"⟩, "MaypoleGreen"), ("MaypoleGreen$Cloth", 57, ⟨"MaypoleGreen", "behind", "(II)I"⟩, "MaypoleGreen"), ("MaypoleGreen$Form", 63, ⟨"MaypoleGreen", "behind", "(II)I"⟩, "MaypoleGreen"), ("MaypoleGreen$Form", 66, ⟨"MaypoleGreen", "ahead", "(II)I"⟩, "MaypoleGreen"), ("MaypoleGreen$Orders", 54, ⟨"MaypoleGreen", "behind", "(II)I"⟩, "MaypoleGreen"), ("MaypoleGreen$Seating", 91, ⟨"MaypoleGreen", "behind", "(II)I"⟩, "MaypoleGreen")]
def gb_NF : List (String × Nat × String × String × String × String) := [("MaypoleGreen$Acts", 28, "MaypoleGreen", "BODIES", "[I", "MaypoleGreen"), ("MaypoleGreen$Acts", 31, "MaypoleGreen", "KIND_ABOVE", "[I", "MaypoleGreen"), ("MaypoleGreen$Person", 24, "MaypoleGreen", "KIND_ABOVE", "[I", "MaypoleGreen")]
def gb_AO : List String := ["MaypoleGreen$Person", "MaypoleGreen$Steps", "MaypoleGreen$Tape"]
def gb_tys (B : BT) : List (ClassId × FieldType) := [(B.2.2.1 13, .int), (B.2.2.1 15, .object "MaypoleGreen$Person"), (B.2.2.1 16, .object "MaypoleGreen$Steps"), (B.2.2.1 17, .object "MaypoleGreen$Tape")]
def gb_BO : List Int := [10, 11, 12, 20, 0, 0, 0, 30, 0, 40, 41, 0, 0, 0, 50]
def gb_KA : List Int := [-1, 0, 0, 2, 0]
def gb_st (B : BT) (C n : String) (k L : Nat) (xs : List Int) (U : State) (H : Heap) : Prop := va_Z C n "[I" (.ref (B.2.2.2 k)) (gb_A B) U H ∧ va_X (B.2.2.2 k) L (fun j => Int32.ofInt (xs.getD j 0)) U H ∧ B.2.2.2 k < B.1
/-- what holds of the tables and statics at a state -/
def gb_SF (B : BT) (U : State) (H : Heap) : Prop := va_K B.2.1 vwCl (gb_tys B) U ∧ (∀ q ∈ gb_NM, va_Nw (.methodLinkNest q.1 q.2.1 q.2.2.1 q.2.2.2) U) ∧ (∀ q ∈ gb_NF, va_Nw (.fieldLinkNest q.1 q.2.1 q.2.2.1 q.2.2.2.1 q.2.2.2.2.1 q.2.2.2.2.2) U) ∧ (∀ C ∈ gb_AO, va_AO C U) ∧ gb_st B "MaypoleGreen" "BODIES" 0 15 gb_BO U H ∧ gb_st B "MaypoleGreen" "KIND_ABOVE" 1 5 gb_KA U H
theorem gb_st.moved {B : BT} {C n : String} {k L : Nat} {xs : List Int} {s U : State} {H : Heap} (hvm : s.vm.Alike U.vm) (h : gb_st B C n k L xs s H) : gb_st B C n k L xs U H := ⟨va_Z.moved hvm h.1, va_X.moved hvm h.2.1, h.2.2⟩
theorem gb_st.kept {B : BT} {C n : String} {k L : Nat} {xs : List Int} {U : State} {H H1 : Heap} (hb : B.1 ≤ H.size) (h : gb_st B C n k L xs U H) (hq : ∀ a : Nat, a < H.size → ¬ gb_A B a → H1[a]? = H[a]?) : gb_st B C n k L xs U H1 := ⟨va_Z.kept h.1 hq, va_X.kept h.2.1 (hq _ (Nat.lt_of_lt_of_le h.2.2 hb) (Nat.not_le.mpr h.2.2)), h.2.2⟩
theorem gb_SF.moved {B : BT} {s U : State} {H H1 : Heap} (hW : s.WarmedH U.vm) (hb : B.1 ≤ H.size) (hq : ∀ a : Nat, a < H.size → ¬ gb_A B a → H1[a]? = H[a]?) (h : gb_SF B s H) : gb_SF B U H1 :=
  ⟨va_K.moved hW.alike h.1, fun q hm => va_Nw.warmM hW (h.2.1 q hm), fun q hm => va_Nw.warmF hW (h.2.2.1 q hm), fun C hm => va_AO.moved hW.alike (h.2.2.2.1 C hm), (h.2.2.2.2.1.moved hW.alike).kept hb hq, (h.2.2.2.2.2.moved hW.alike).kept hb hq⟩
theorem gb_SF.calling {B : BT} {U : State} {H : Heap} {g : JFrame} {mk : MethodId} {a : Array Value} (h : gb_SF B U H) : gb_SF B (U.calling g mk a) H :=
  have e : U.vm = (U.calling g mk a).vm := rfl
  have al : U.vm.Alike (U.calling g mk a).vm := Vm.Alike.refl U.vm
  ⟨va_K.moved al h.1, fun q hm => va_Nw.same rfl e (h.2.1 q hm), fun q hm => va_Nw.same rfl e (h.2.2.1 q hm), fun C hm => va_AO.moved al (h.2.2.2.1 C hm), h.2.2.2.2.1.moved al, h.2.2.2.2.2.moved al⟩
/-- the heap holds the picture -/
def gb_RU (B : BT) (τ : TT) (h : HT) (H : Heap) : Prop := va_P B.2.1 vwCl (gb_w B τ h) H ∧ va_D (gb_A B) (gb_w B τ h) ∧ H.size = B.1 + gb_ps τ.1 ∧ τ.1 < 1000000 ∧ (64 < τ.1 → τ.2.1 64 = 14)
theorem gb_ng {B : BT} {τ : TT} {h : HT} {H : Heap} (hU : gb_RU B τ h H) {a ci : Nat} (ha : a < τ.1) (hk : τ.2.1 a = ci) (hc : ci ≠ 14) : a ≠ 64 := fun e => hc (by subst e; exact hk.symm.trans (hU.2.2.2.2 ha))
def gb_rm (d bc bs : Nat) : Room := { frames := d, cells := bc, slots := bs, locals := 60 * d }
/-- a method's place: machine, code, words, room -/
def gb_CX (M : MT) (d : Nat) (B : BT) (p : Program) (R : Room) (s : State) (m : MethodId) (args : Array Value) (meth : Method) (c : Code) : Prop :=
  p.tables.exec = Jvm.exec ∧ c.code = M.1 ∧ c.maxLocals = M.2.2.1 ∧ s.vm.findClass M.2.1 = some m.cls ∧ (∀ w ∈ gb_LW, w.before args s = true) ∧ d ≤ R.frames ∧ 60 * d ≤ R.locals ∧ gb_SF B s s.heap ∧ B.1 ≤ s.heap.size ∧ meth.name = M.2.2.2.2.name
def gb_RP (B : BT) (τ : TT) (h : HT) (s : State) (H : Heap) (locs : List Loc) : Prop := gb_RU B τ h H ∧ va_S (gb_A B) s.heap H locs
def gb_LR (B : BT) (nL : Nat) (ls : List (Option AV)) (la : Array Slot) : Prop := lv_has la nL [] ∧ ∀ (i : Nat) (v : AV), ls[i]? = some (some v) → la[i]? = some (.val (gb_tv B v))
/-- the end of a method: the instruction, the answer -/
def gb_rt (M : MT) (pc : Nat) (r : Option AV) : Prop := match M.2.2.2.1 with
  | none => decode M.1 pc = .ok (.return_, 1) ∧ r = none
  | some ty => if gb_isR ty = true then decode M.1 pc = .ok (.areturn, 1) ∧ ∃ x, r = some (.inr x) else decode M.1 pc = .ok (.ireturn, 1) ∧ ∃ x : Int, r = some (.inl x) ∧ narrow ty (.int (Int32.ofInt x)) = .int (Int32.ofInt x)
def gb_End (M : MT) (B : BT) (p : Program) (l : Launch) (e : Env) (R : Room) (s : State) (m : MethodId) (args : Array Value) (below : List Frame) (meth : Method) (c : Code) (cm sm : Nat) (Z : ZT) (Q : State → Prop) : Prop :=
  ∀ (r : Option AV) (τ : TT) (h : HT) (H : Heap) (locs : List Loc) (cells slots pc : Nat) (la : Array Slot), Z r τ h → gb_RP B τ h s H locs → cells ≤ cm → slots ≤ sm → gb_rt M pc r → W p l e R s m args below meth c H locs cells slots Q (F0 m pc la ((r.map (gb_tv B)).toList))
/-- from pc on, with these locals, this stack, this heap, the method comes to its end, and Z holds there; bc cells of bs slots may come -/
def G_ (M : MT) (d bc bs pc : Nat) (ls : List (Option AV)) (st : List AV) (τ : TT) (h : HT) (Z : ZT) : Prop :=
  ∀ (B : BT) (p : Program) (l : Launch) (e : Env) (R : Room) (s : State) (m : MethodId) (args : Array Value) (below : List Frame) (meth : Method) (c : Code) (H : Heap) (locs : List Loc) (cells slots cm sm : Nat) (la : Array Slot) (Q : State → Prop),
    gb_CX M d B p R s m args meth c → gb_RP B τ h s H locs → cells + bc ≤ cm → slots + bs ≤ sm → cm ≤ R.cells → sm ≤ R.slots → gb_LR B M.2.2.1 ls la → gb_End M B p l e R s m args below meth c cm sm Z Q →
    W p l e R s m args below meth c H locs cells slots Q (F0 m pc la (st.map (gb_tv B)))
def gb_P (B : BT) (as : List AV) (τ : TT) (h : HT) : Array Value → State → Prop := fun v U => v = (as.map (gb_tv B)).toArray ∧ gb_RU B τ h U.heap ∧ gb_SF B U U.heap ∧ B.1 ≤ U.heap.size
def gb_Q (B : BT) (Z : ZT) : Array Value → State → Outcome → State → Prop := fun _ st oc t => (∃ (r : Option AV) (τ : TT) (h : HT), oc = .returned (r.map (gb_tv B)) ∧ Z r τ h ∧ gb_RU B τ h t.heap) ∧ va_F (gb_A B) st t
def gb_ws (M : MT) : List Cond := Cond.code M.2.2.2.2 M.1 M.2.2.1 M.2.2.2.1 :: gb_LW
/-- a method's contract -/
def S_ (M : MT) (d bc bs : Nat) (as : List AV) (τ : TT) (h : HT) (Z : ZT) : Prop := ∀ (l : Launch) (B : BT), Met l M.2.2.2.2 (gb_ws M) (gb_rm d bc bs) (gb_P B as τ h) (gb_Q B Z) bc bs (gb_A B)
/-- a method that makes nothing -/
abbrev Zp (τ : TT) (z : Option AV → HT → Prop) : ZT := fun r τ' h' => τ' = τ ∧ z r h'
theorem gb_FB {B : BT} {as : List AV} {τ : TT} {h : HT} : FrameBlind (gb_P B as τ h) := fun _ _ _ _ q => ⟨q.1, q.2.1, q.2.2.1.calling, q.2.2.2⟩
