/-! rows of the judgement for the law, which has the script beside -/
def gb_CL (X : BT → State → Prop) (M : MT) (d : Nat) (B : BT) (p : Program) (R : Room) (s : State) (m : MethodId) (args : Array Value) (meth : Method) (c : Code) : Prop :=
  p.tables.exec = Jvm.exec ∧ c.code = M.1 ∧ c.maxLocals = M.2.2.1 ∧ s.vm.findClass M.2.1 = some m.cls ∧ (∀ w ∈ gb_LW, w.before args s = true) ∧ d ≤ R.frames ∧ 60 * d ≤ R.locals ∧ gb_SF B s s.heap ∧ B.1 ≤ s.heap.size ∧ X B s
def L_ (X : BT → State → Prop) (M : MT) (d bc bs pc : Nat) (ls : List (Option AV)) (st : List AV) (τ : TT) (h : HT) (Z : ZT) : Prop :=
  ∀ (B : BT) (p : Program) (l : Launch) (e : Env) (R : Room) (s : State) (m : MethodId) (args : Array Value) (below : List Frame) (meth : Method) (c : Code) (H : Heap) (locs : List Loc) (cells slots cm sm : Nat) (la : Array Slot) (Q : State → Prop),
    gb_CL X M d B p R s m args meth c → gb_RP B τ h s H locs → cells + bc ≤ cm → slots + bs ≤ sm → cm ≤ R.cells → sm ≤ R.slots → gb_LR B M.2.2.1 ls la → gb_End M B p l e R s m args below meth c cm sm Z Q →
    W p l e R s m args below meth c H locs cells slots Q (F0 m pc la (st.map (gb_tv B)))
def gb_X (L : Nat) (xs : Nat → Int32) (B : BT) (s : State) : Prop := va_X (B.2.2.2 2) L xs s s.heap ∧ B.2.2.2 2 < B.1
section GL
variable {X : BT → State → Prop} {M : MT} {d bc bs pc : Nat} {ls : List (Option AV)} {st : List AV} {τ : TT} {h : HT} {Z : ZT}
theorem L_step {pc' : Nat} {st' : List AV} (hk : L_ X M d bc bs pc' ls st' τ h Z)
    (hw : ∀ (B : BT) (p : Program) (l : Launch) (e : Env) (R : Room) (s : State) (m : MethodId) (args : Array Value) (below : List Frame) (meth : Method) (c : Code) (H : Heap) (locs : List Loc) (cells slots : Nat) (la : Array Slot) (Q : State → Prop), p.tables.exec = Jvm.exec → c.code = M.1 → s.vm.findClass M.2.1 = some m.cls → (∀ w ∈ gb_LW, w.before args s = true) → gb_LR B M.2.2.1 ls la →
      W p l e R s m args below meth c H locs cells slots Q (F0 m pc' la (st'.map (gb_tv B))) → W p l e R s m args below meth c H locs cells slots Q (F0 m pc la (st.map (gb_tv B)))) : L_ X M d bc bs pc ls st τ h Z := by
  intro B p l e R s m args below meth c H locs cells slots cm sm la Q hC hR h1 h2 h3 h4 hL hE
  exact hw B p l e R s m args below meth c H locs cells slots la Q hC.1 hC.2.1 hC.2.2.2.1 hC.2.2.2.2.1 hL (hk B p l e R s m args below meth c H locs cells slots cm sm la Q hC hR h1 h2 h3 h4 hL hE)
theorem L_br {P : Prop} {pc1 pc2 : Nat} {st' : List AV} (k1 : P → L_ X M d bc bs pc1 ls st' τ h Z) (k2 : ¬ P → L_ X M d bc bs pc2 ls st' τ h Z)
    (hw : ∀ (B : BT) (p : Program) (l : Launch) (e : Env) (R : Room) (s : State) (m : MethodId) (args : Array Value) (below : List Frame) (meth : Method) (c : Code) (H : Heap) (locs : List Loc) (cells slots : Nat) (la : Array Slot) (Q : State → Prop), p.tables.exec = Jvm.exec → c.code = M.1 →
      (P → W p l e R s m args below meth c H locs cells slots Q (F0 m pc1 la (st'.map (gb_tv B)))) → (¬ P → W p l e R s m args below meth c H locs cells slots Q (F0 m pc2 la (st'.map (gb_tv B)))) → W p l e R s m args below meth c H locs cells slots Q (F0 m pc la (st.map (gb_tv B)))) : L_ X M d bc bs pc ls st τ h Z := by
  intro B p l e R s m args below meth c H locs cells slots cm sm la Q hC hR h1 h2 h3 h4 hL hE
  exact hw B p l e R s m args below meth c H locs cells slots la Q hC.1 hC.2.1 (fun q => k1 q B p l e R s m args below meth c H locs cells slots cm sm la Q hC hR h1 h2 h3 h4 hL hE) (fun q => k2 q B p l e R s m args below meth c H locs cells slots cm sm la Q hC hR h1 h2 h3 h4 hL hE)
theorem L_iconst {n : Int} (hd : decode M.1 pc = .ok (.iconst n, 1)) (k : L_ X M d bc bs (pc + 1) ls (.inl n :: st) τ h Z) : L_ X M d bc bs pc ls st τ h Z :=
  L_step k fun B p l e R s m args below meth c H locs cells slots la Q hx hb ho ht hL hw => lv_iconst hx hb hd rfl hw
theorem L_bipush {n : Int} (hd : decode M.1 pc = .ok (.bipush n, 2)) (hn : (Int8.ofInt n).toInt32 = Int32.ofInt n) (k : L_ X M d bc bs (pc + 2) ls (.inl n :: st) τ h Z) : L_ X M d bc bs pc ls st τ h Z :=
  L_step k fun B p l e R s m args below meth c H locs cells slots la Q hx hb ho ht hL hw => lv_bipush hx hb hd hn hw
theorem L_iload_n {q : Fin 4} {i : Nat} {x : Int} (hd : decode M.1 pc = .ok (.iload_n q, 1)) (hi : (q : Nat) = i) (hl : ls[i]? = some (some (.inl x))) (k : L_ X M d bc bs (pc + 1) ls (.inl x :: st) τ h Z) : L_ X M d bc bs pc ls st τ h Z :=
  L_step k fun B p l e R s m args below meth c H locs cells slots la Q hx hb ho ht hL hw => lv_iload_n hx hb hd hi (hL.2 _ _ hl) hw
theorem L_aload_n {q : Fin 4} {i : Nat} {x : Option Nat} (hd : decode M.1 pc = .ok (.aload_n q, 1)) (hi : (q : Nat) = i) (hl : ls[i]? = some (some (.inr x))) (k : L_ X M d bc bs (pc + 1) ls (.inr x :: st) τ h Z) : L_ X M d bc bs pc ls st τ h Z :=
  L_step k fun B p l e R s m args below meth c H locs cells slots la Q hx hb ho ht hL hw => by
    cases x with
    | none => exact lv_aload_nN hx hb hd hi (hL.2 _ _ hl) hw
    | some a => exact lv_aload_n hx hb hd hi (hL.2 _ _ hl) hw
theorem L_istore_n {q : Fin 4} {i : Nat} {x : Int} {ls' : List (Option AV)} (hd : decode M.1 pc = .ok (.istore_n q, 1)) (hi : (q : Nat) = i) (hn : i < M.2.2.1) (hl : ls.set i (some (.inl x)) = ls') (k : L_ X M d bc bs (pc + 1) ls' st τ h Z) : L_ X M d bc bs pc ls (.inl x :: st) τ h Z := by
  intro B p l e R s m args below meth c H locs cells slots cm sm la Q hC hR h1 h2 h3 h4 hL hE
  exact lv_istore_n hC.1 hC.2.1 hd hi (gb_LR_has hL) hn rfl (fun la' h' => k B p l e R s m args below meth c H locs cells slots cm sm la' Q hC hR h1 h2 h3 h4 (hl ▸ gb_LR_st (v := .inl x) h') hE)
theorem L_astore_n {q : Fin 4} {i : Nat} {x : Option Nat} {ls' : List (Option AV)} (hd : decode M.1 pc = .ok (.astore_n q, 1)) (hi : (q : Nat) = i) (hn : i < M.2.2.1) (hl : ls.set i (some (.inr x)) = ls') (k : L_ X M d bc bs (pc + 1) ls' st τ h Z) : L_ X M d bc bs pc ls (.inr x :: st) τ h Z := by
  intro B p l e R s m args below meth c H locs cells slots cm sm la Q hC hR h1 h2 h3 h4 hL hE
  cases x with
  | none => exact lv_astore_nN hC.1 hC.2.1 hd hi (gb_LR_has hL) hn rfl (fun la' h' => k B p l e R s m args below meth c H locs cells slots cm sm la' Q hC hR h1 h2 h3 h4 (hl ▸ gb_LR_st (v := .inr none) h') hE)
  | some a => exact lv_astore_n hC.1 hC.2.1 hd hi (gb_LR_has hL) hn rfl (fun la' h' => k B p l e R s m args below meth c H locs cells slots cm sm la' Q hC hR h1 h2 h3 h4 (hl ▸ gb_LR_st (v := .inr (some a)) h') hE)
theorem L_iinc {i : Nat} {n x : Int} {ls' : List (Option AV)} (hd : decode M.1 pc = .ok (.iinc i n, 3)) (hn : i < M.2.2.1) (hx : ls[i]? = some (some (.inl x))) (hl : ls.set i (some (.inl (x + n))) = ls') (k : L_ X M d bc bs (pc + 3) ls' st τ h Z) : L_ X M d bc bs pc ls st τ h Z := by
  intro B p l e R s m args below meth c H locs cells slots cm sm la Q hC hR h1 h2 h3 h4 hL hE
  obtain ⟨j, hj⟩ := List.getElem?_of_mem (gb_pl_mem (B := B) (ls := ls) (q := (i, .int (Int32.ofInt x))).mpr ⟨_, hx, rfl⟩)
  exact lv_iinc (v := Int32.ofInt (x + n)) hC.1 hC.2.1 hd (gb_LR_has hL) hj (Int32.ofInt_add x n).symm hn rfl (fun la' h' => k B p l e R s m args below meth c H locs cells slots cm sm la' Q hC hR h1 h2 h3 h4 (hl ▸ gb_LR_st (v := .inl (x + n)) h') hE)
theorem L_iadd {a b : Int} (hd : decode M.1 pc = .ok (.iadd, 1)) (k : L_ X M d bc bs (pc + 1) ls (.inl (a + b) :: st) τ h Z) : L_ X M d bc bs pc ls (.inl b :: .inl a :: st) τ h Z :=
  L_step k fun B p l e R s m args below meth c H locs cells slots la Q hx hb ho ht hL hw => lv_iadd hx hb hd (by rw [← Int32.ofInt_add]; exact hw)
theorem L_isub {a b : Int} (hd : decode M.1 pc = .ok (.isub, 1)) (k : L_ X M d bc bs (pc + 1) ls (.inl (a - b) :: st) τ h Z) : L_ X M d bc bs pc ls (.inl b :: .inl a :: st) τ h Z :=
  L_step k fun B p l e R s m args below meth c H locs cells slots la Q hx hb ho ht hL hw => lv_isub hx hb hd (by rw [← Int32.ofInt_sub]; exact hw)
theorem L_iand {a b : Int} (hd : decode M.1 pc = .ok (.iand, 1)) (k : L_ X M d bc bs (pc + 1) ls (.inl (b_and a b) :: st) τ h Z) : L_ X M d bc bs pc ls (.inl b :: .inl a :: st) τ h Z :=
  L_step k fun B p l e R s m args below meth c H locs cells slots la Q hx hb ho ht hL hw => lv_iand hx hb hd (by rw [← gb_oti (_ &&& _)]; exact hw)
theorem L_dup {v : AV} (hd : decode M.1 pc = .ok (.dup, 1)) (k : L_ X M d bc bs (pc + 1) ls (v :: v :: st) τ h Z) : L_ X M d bc bs pc ls (v :: st) τ h Z :=
  L_step k fun B p l e R s m args below meth c H locs cells slots la Q hx hb ho ht hL hw => lv_dup hx hb hd (gb_cat B v) hw
theorem L_goto {off : Int} {tgt : Nat} (hd : decode M.1 pc = .ok (.goto off, 3)) (ht : (pc : Int) + off = (tgt : Int)) (k : L_ X M d bc bs tgt ls st τ h Z) : L_ X M d bc bs pc ls st τ h Z :=
  L_step k fun B p l e R s m args below meth c H locs cells slots la Q hx hb ho ht' hL hw => lv_goto hx hb hd ht hw
theorem L_icmp_gt {a b : Int} {off : Int} {tgt : Nat} (hd : decode M.1 pc = .ok (.if_icmp .gt off, 3)) (ht : (pc : Int) + off = (tgt : Int)) (ha : -2147483648 ≤ a ∧ a ≤ 2147483647) (hb' : -2147483648 ≤ b ∧ b ≤ 2147483647) (kt : b < a → L_ X M d bc bs tgt ls st τ h Z) (kf : ¬ b < a → L_ X M d bc bs (pc + 3) ls st τ h Z) : L_ X M d bc bs pc ls (.inl b :: .inl a :: st) τ h Z :=
  L_br (P := b < a) (pc1 := tgt) (pc2 := pc + 3) kt kf fun B p l e R s m args below meth c H locs cells slots la Q hx hb h1 h2 => lv_icmp_gt hx hb hd ht (fun q => h1 ((gb_lt hb' ha).mp (by first | exact q | (rw [← gb_0]; exact q)))) (fun q => h2 (fun z => q (by first | exact (gb_lt hb' ha).mpr z | (rw [gb_0]; exact (gb_lt hb' ha).mpr z))))
theorem L_zret {v : Int} (hm : M.2.2.2.1 = some .boolean) (hv : v = 0 ∨ v = 1) (hd : decode M.1 pc = .ok (.ireturn, 1)) (hz : Z (some (.inl v)) τ h) : L_ X M d bc bs pc ls [.inl v] τ h Z := by
  intro B p l e R s m args below meth c H locs cells slots cm sm la Q hC hR h1 h2 h3 h4 hL hE
  exact hE (some (.inl v)) τ h H locs cells slots pc la hz hR (by omega) (by omega) (by simp only [gb_rt, hm]; exact ⟨hd, v, rfl, gb_nz hv⟩)
theorem gb_preL {B : BT} {p : Program} {R : Room} {s : State} {m : MethodId} {args : Array Value} {meth : Method} {c : Code} {H : Heap} {locs : List Loc} {as : List AV} (hC : gb_CL X M d B p R s m args meth c) (hR : gb_RP B τ h s H locs) (U : State) (hU : U.heap = H) (hW : s.WarmedH U.vm) : gb_P B as τ h (as.map (gb_tv B)).toArray U := by
  refine ⟨rfl, by rw [hU]; exact hR.1, ?_, ?_⟩
  · rw [hU]
    exact hC.2.2.2.2.2.2.2.1.moved hW hC.2.2.2.2.2.2.2.2.1 hR.2.2.1
  · rw [hU]
    exact Nat.le_trans hC.2.2.2.2.2.2.2.2.1 hR.2.1
theorem L_callV {M' : MT} {idx ci n a bc' bs' : Nat} {as st0 : List AV} {Z' : ZT} (hc : gb_cv M.2.1 idx M' ci n) (hs : S_ M' d bc' bs' (.inr (some a) :: as) τ h Z') (hst : as.reverse ++ .inr (some a) :: st = st0) (hn : as.length = n) (hl : st.length ≤ 8) (ho : ob_ τ a ci) (hd : decode M.1 pc = .ok (.invokevirtual idx, 3)) (kk : ∀ r τ' h', Z' r τ' h' → L_ X M (d + 1) bc bs (pc + 3) ls (r.toList ++ st) τ' h' Z) : L_ X M (d + 1) (bc' + bc) (bs' + bs) pc ls st0 τ h Z := by
  intro B p l e R s m args below meth c H locs cells slots cm sm la Q hC hR h1 h2 h3 h4 hL hE
  obtain ⟨⟨c1, c2, c3, c4⟩, c5, c6, c7, c8, c9⟩ := hc
  have hts := hC.2.2.2.2.1
  have he : (gb_w B τ h)[gb_ps a]? = some (gb_ad B a, .inr (ci, gb_fl B τ h a)) := by rw [gb_w_get ho.1 (gb_ng hR.1 ho.1 ho.2 (by omega)), gb_ent_o ho.2 c8]
  cases hq : vwCl[ci]? with
  | none => rw [hq] at c9; cases c9
  | some q =>
    rw [hq] at c9
    have hrv := va_recv hC.2.2.2.2.2.2.2.1.1 hR.1.1 hq he
    rw [show q.1 = M'.2.2.2.2.cls from Option.some.inj c9] at hrv
    have hfr := hC.2.2.2.2.2.1
    have hlo := hC.2.2.2.2.2.2.1
    have hCB : CallB R s args M.2.1 idx M'.2.2.2.2 M'.1 M'.2.2.1 M'.2.2.2.1 (gb_ws M') (gb_rm d bc' bs') bc' bs' n := callB_of n hts (gb_GI c2) rfl rfl rfl (hts _ c1) (hts _ c5) c3 ⟨hfr, by show 8 + (_ + 11) + 60 * d ≤ _; omega⟩
    refine gb_back (va_runV (n := n) (b := gb_ad B a) (As := as.map (gb_tv B)) (rest := st.map (gb_tv B)) (Pc := gb_P B (.inr (some a) :: as) τ h) (Qc := gb_Q B Z') (g := F0 m pc la (st0.map (gb_tv B))) ⟨hC.1, hC.2.1, hC.2.2.1, hC.2.2.2.1, hts⟩ (hs l B) ⟨hCB, hts _ c6, hts _ c7⟩ ⟨gb_FB, hrv, fun U hU hW => gb_preL (as := .inr (some a) :: as) hC hR U hU hW⟩ rfl (by rw [List.length_map]; exact hn) (by show la.size = _; exact hL.1.1) (by show st0.map (gb_tv B) = _; rw [← hst]; simp; rfl) (gb_lw hl) hd ⟨by omega, by omega⟩) hR.2 (fun r τ' h' H1 locs1 hz hR1 => ?_)
    have := kk r τ' h' hz B p l e R s m args below meth c H1 locs1 (cells + bc') (slots + bs') cm sm la Q hC hR1 (by omega) (by omega) h3 h4 hL hE
    rw [List.map_append] at this
    cases r <;> exact this
theorem L_callI {M' : MT} {idx n a bc' bs' : Nat} {as st0 : List AV} {Z' : ZT} (hc : gb_ci M.2.1 idx M' n) (hs : S_ M' d bc' bs' (.inr (some a) :: as) τ h Z') (hst : as.reverse ++ .inr (some a) :: st = st0) (hn : as.length = n) (hl : st.length ≤ 8) (hd : decode M.1 pc = .ok (.invokespecial idx, 3)) (kk : ∀ r τ' h', Z' r τ' h' → L_ X M (d + 1) bc bs (pc + 3) ls (r.toList ++ st) τ' h' Z) : L_ X M (d + 1) (bc' + bc) (bs' + bs) pc ls st0 τ h Z := by
  intro B p l e R s m args below meth c H locs cells slots cm sm la Q hC hR h1 h2 h3 h4 hL hE
  obtain ⟨⟨c1, c2, c3, c4⟩, c5, c6, c7, c8⟩ := hc
  have hts := hC.2.2.2.2.1
  have hfr := hC.2.2.2.2.2.1
  have hlo := hC.2.2.2.2.2.2.1
  have hCB : CallB R s args M.2.1 idx M'.2.2.2.2 M'.1 M'.2.2.1 M'.2.2.2.1 (gb_ws M') (gb_rm d bc' bs') bc' bs' n := callB_of n hts (gb_GI c2) rfl rfl rfl (hts _ c1) (hts _ c5) c3 ⟨hfr, by show 8 + (_ + 11) + 60 * d ≤ _; omega⟩
  rw [c8] at hCB
  refine gb_back (va_runI (n := n) (b := gb_ad B a) (As := as.map (gb_tv B)) (rest := st.map (gb_tv B)) (Pc := gb_P B (.inr (some a) :: as) τ h) (Qc := gb_Q B Z') (g := F0 m pc la (st0.map (gb_tv B))) ⟨hC.1, hC.2.1, hC.2.2.1, hC.2.2.2.1, hts⟩ (hs l B) ⟨hCB, c7, hts _ c6⟩ ⟨gb_FB, fun U hU hW => gb_preL (as := .inr (some a) :: as) hC hR U hU hW⟩ rfl (by rw [List.length_map]; exact hn) (by show la.size = _; exact hL.1.1) (by show st0.map (gb_tv B) = _; rw [← hst]; simp; rfl) (gb_lw hl) hd ⟨by omega, by omega⟩) hR.2 (fun r τ' h' H1 locs1 hz hR1 => ?_)
  have := kk r τ' h' hz B p l e R s m args below meth c H1 locs1 (cells + bc') (slots + bs') cm sm la Q hC hR1 (by omega) (by omega) h3 h4 hL hE
  rw [List.map_append] at this
  cases r <;> exact this
theorem L_new {idx ci N : Nat} {C : String} {T : u_T} {ty : Nat → FieldType} (hc : gb_cls ci C T N ty) (hl : Cond.classLink M.2.1 idx C ∈ gb_LW) (hdv : ∀ j, j < N → gb_dv (ty j) = true) (ht : τ.1 < 999999 ∧ τ.1 ≠ 64) (hd : decode M.1 pc = .ok (.new idx, 3)) (kk : L_ X M d bc bs (pc + 3) ls (.inr (some τ.1) :: st) (tn_ τ ci 0) (hn_ τ h) Z) : L_ X M d (1 + bc) (N + bs) pc ls st τ h Z := by
  intro B p l e R s m args below meth c H locs cells slots cm sm la Q hC hR h1 h2 h3 h4 hL hE
  obtain ⟨c1, c2, c3, c4, c5, c6, c7, c8, c9⟩ := hc
  have hts := hC.2.2.2.2.1
  have hK := hC.2.2.2.2.2.2.2.1.1
  have hKn := hK.1 ci _ c1
  have ha : gb_ad B τ.1 = H.size := by rw [hR.1.2.2.1]; exact gb_ad_lt (by omega)
  refine W.newcK hC.1 hC.2.1 hC.2.2.2.1 (hts _ hl) (hts _ c7) (hts _ c8) rfl hd (by omega) (by omega) hKn.2.1 rfl fun H1 kC hkC e1 z1 o1 => ?_
  have ek : (tn_ τ ci 0).2.1 τ.1 = ci := if_pos rfl
  have hfs : ∀ j, j < N → defaultValue (ty j) = vp_V (gb_fl B (tn_ τ ci 0) (hn_ τ h) τ.1) j := by
    intro j hj
    unfold vp_V
    rw [List.getD_eq_getElem?_getD, gb_fl_get (by rw [ek, c5]; exact hj)]
    have e2 : (tn_ τ ci 0).2.2.2 τ.1 j = none := if_pos rfl
    have e3 : hn_ τ h τ.1 j = 0 := if_pos rfl
    unfold gb_fv
    rw [ek, c6, e2, e3]
    have := hdv j hj
    generalize ty j = t at this ⊢
    cases t <;> first | rfl | (exact absurd this (by decide))
  have hat : va_at B.2.1 vwCl (gb_ad B τ.1, .inr (ci, gb_fl B (tn_ τ ci 0) (hn_ τ h) τ.1)) H1 := by
    rw [ha]
    exact ⟨_, c1, (u_born ty hts c2 hKn hkC e1 c3).to hfs⟩
  have hR1 := gb_mk hR ht (gb_ent_o ek c9) hat z1 o1 hC.2.2.2.2.2.2.2.2.1
  have := kk B p l e R s m args below meth c H1 locs (cells + 1) (slots + N) cm sm la Q hC hR1 (by omega) (by omega) h3 h4 hL hE
  rw [show (Value.ref H.size) = gb_tv B (.inr (some τ.1)) from by show Value.ref _ = Value.ref _; rw [ha]]
  exact this
theorem L_tswIn {v lo hi off dflt : Int} {offs : Array Int} {len tgt : Nat} (hd : decode M.1 pc = .ok (.tableswitch dflt lo hi offs, len)) (hr : -2147483648 ≤ v ∧ v ≤ 2147483647) (hv : lo ≤ v ∧ v ≤ hi) (ho : offs[(v - lo).toNat]? = some off) (ht : (pc : Int) + off = (tgt : Int)) (k : L_ X M d bc bs tgt ls st τ h Z) : L_ X M d bc bs pc ls (.inl v :: st) τ h Z :=
  L_step k fun B p l e R s m args below meth c H locs cells slots la Q hx hb ho' ht' hL hw => lv_tableIn hx hb hd (by rw [gb_ofInt hr]; omega) (by rw [gb_ofInt hr]; omega) (by rw [gb_ofInt hr]; exact ho) ht hw
theorem L_tswOut {v lo hi dflt : Int} {offs : Array Int} {len tgt : Nat} (hd : decode M.1 pc = .ok (.tableswitch dflt lo hi offs, len)) (hr : -2147483648 ≤ v ∧ v ≤ 2147483647) (hv : v < lo ∨ hi < v) (ht : (pc : Int) + dflt = (tgt : Int)) (k : L_ X M d bc bs tgt ls st τ h Z) : L_ X M d bc bs pc ls (.inl v :: st) τ h Z :=
  L_step k fun B p l e R s m args below meth c H locs cells slots la Q hx hb ho' ht' hL hw => lv_tableOut hx hb hd (by rw [gb_ofInt hr]; exact hv) ht hw
theorem L_wk {bc' bs' : Nat} (h1 : bc ≤ bc') (h2 : bs ≤ bs') (k : L_ X M d bc bs pc ls st τ h Z) : L_ X M d bc' bs' pc ls st τ h Z := by
  intro B p l e R s m args below meth c H locs cells slots cm sm la Q hC hR a1 a2 a3 a4 hL hE
  exact k B p l e R s m args below meth c H locs cells slots cm sm la Q hC hR (by omega) (by omega) a3 a4 hL hE
theorem L_same {a : Int} {off : Int} {tgt : Nat} (hd : decode M.1 pc = .ok (.if_icmp .eq off, 3)) (ht : (pc : Int) + off = (tgt : Int)) (k : L_ X M d bc bs tgt ls st τ h Z) : L_ X M d bc bs pc ls (.inl a :: .inl a :: st) τ h Z :=
  L_step k fun B p l e R s m args below meth c H locs cells slots la Q hx hb ho ht' hL hw => lv_icmp_eq hx hb hd ht (fun _ => hw) (fun q => absurd rfl q)
theorem L_newz {idx ci N a BC BS : Nat} {C : String} {T : u_T} {ty : Nat → FieldType} (hc : gb_cls ci C T N ty) (hl : Cond.classLink M.2.1 idx C ∈ gb_LW) (hdv : ∀ j, j < N → gb_dv (ty j) = true) (ha : τ.1 = a) (ht : a < 900000 ∧ a ≠ 64) (hz : ∀ j, h a j = 0) (e1 : BC = 1 + bc) (e2 : BS = N + bs) (hd : decode M.1 pc = .ok (.new idx, 3)) (kk : L_ X M d bc bs (pc + 3) ls (.inr (some a) :: st) (tz_ a τ ci 0) h Z) : L_ X M d BC BS pc ls st τ h Z := by
  subst ha; subst e1; subst e2
  exact L_new hc hl hdv (by omega) hd (by rw [hn_id hz]; exact kk)
theorem L_callIc {M' : MT} {idx n a bc' bs' BC BS : Nat} {T : TT} {H : HT} {as st0 : List AV} (hc : gb_ci M.2.1 idx M' n) (hs : S_ M' d bc' bs' (.inr (some a) :: as) τ h (fun r τ' h' => r = none ∧ τ' = T ∧ h' = H)) (hst : as.reverse ++ .inr (some a) :: st = st0) (hn : as.length = n) (hl : st.length ≤ 8) (e1 : BC = bc' + bc) (e2 : BS = bs' + bs) (hd : decode M.1 pc = .ok (.invokespecial idx, 3)) (kk : L_ X M (d + 1) bc bs (pc + 3) ls st T H Z) : L_ X M (d + 1) BC BS pc ls st0 τ h Z := by
  subst e1; subst e2
  exact L_callI hc hs hst hn hl hd (fun r τ' h' q => by obtain ⟨rfl, rfl, rfl⟩ := q; exact kk)
theorem L_alenS {L : Nat} {xs : Nat → Int32} (hd : decode M.1 pc = .ok (.arraylength, 1)) (kk : L_ (gb_X L xs) M d bc bs (pc + 1) ls (.inl (L : Int) :: st) τ h Z) : L_ (gb_X L xs) M d bc bs pc ls (.inr (some 1000002) :: st) τ h Z := by
  intro B p l e R s m args below meth c H locs cells slots cm sm la Q hC hR h1 h2 h3 h4 hL hE
  obtain ⟨hX, hlt⟩ := hC.2.2.2.2.2.2.2.2.2
  refine va_slen hC.1 hC.2.1 hX (Nat.lt_of_lt_of_le hlt hC.2.2.2.2.2.2.2.2.1) (Nat.not_le.mpr hlt) hR.2 hd ?_
  exact kk B p l e R s m args below meth c H locs cells slots cm sm la Q hC hR h1 h2 h3 h4 hL hE
theorem L_ialdS {L : Nat} {xs : Nat → Int32} {i : Int} {k : Nat} (hd : decode M.1 pc = .ok (.iaload, 1)) (hL31 : L ≤ 384) (hk : i = (k : Int)) (hi : k < L) (kk : L_ (gb_X L xs) M d bc bs (pc + 1) ls (.inl (xs k).toInt :: st) τ h Z) : L_ (gb_X L xs) M d bc bs pc ls (.inl i :: .inr (some 1000002) :: st) τ h Z := by
  intro B p l e R s m args below meth c H locs cells slots cm sm la Q hC hR h1 h2 h3 h4 hL hE
  obtain ⟨hX, hlt⟩ := hC.2.2.2.2.2.2.2.2.2
  subst hk
  refine va_sld hC.1 hC.2.1 hX (Nat.lt_of_lt_of_le hlt hC.2.2.2.2.2.2.2.2.1) (Nat.not_le.mpr hlt) hR.2 (gb_in (n := L) (by omega) (by omega) (by omega)) hd ?_
  rw [gb_nat (n := L) (by omega) (by omega) (by omega), Int.toNat_natCast]
  have := kk B p l e R s m args below meth c H locs cells slots cm sm la Q hC hR h1 h2 h3 h4 hL hE
  rw [List.map_cons, show gb_tv B (.inl (xs k).toInt) = .int (xs k) from by show Value.int (Int32.ofInt (xs k).toInt) = _; rw [gb_oti]] at this
  exact this
end GL
theorem and63 (a : Int) : 0 ≤ b_and a 63 ∧ b_and a 63 ≤ 63 := by
  show 0 ≤ (Int32.ofInt a &&& Int32.ofInt 63).toBitVec.toInt ∧ (Int32.ofInt a &&& Int32.ofInt 63).toBitVec.toInt ≤ 63
  rw [Int32.toBitVec_and]
  have e : (Int32.ofInt 63).toBitVec.toNat = 63 := by decide +kernel
  have l : ((Int32.ofInt a).toBitVec &&& (Int32.ofInt 63).toBitVec).toNat ≤ 63 := by
    rw [BitVec.toNat_and, e]
    exact Nat.and_le_right
  rw [BitVec.toInt_eq_toNat_of_lt (by omega)]
  omega
theorem i32r (x : Int32) : -2147483648 ≤ x.toInt ∧ x.toInt ≤ 2147483647 := by
  have a := Int32.le_toInt x
  have b := Int32.toInt_lt x
  omega
