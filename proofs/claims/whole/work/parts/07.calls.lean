/-! rows of the judgement: ends, calls, what is made -/
theorem gb_good {w : Cond} (h : w ∈ gb_LW) : w ∈ gb_LW ∧ ((w.onTables && w.keeps) = true ∨ ∃ ty, w = .arrayClass ty) := ⟨h, good_of_word (List.mem_filter.mp h).2⟩
theorem gb_GI {M : MT} (h : Cond.code M.2.2.2.2 M.1 M.2.2.1 M.2.2.2.1 ∈ gb_LW) : GoodIn gb_LW (gb_ws M) := fun w hw => (List.mem_cons.mp hw).elim (fun e => by rw [e]; exact gb_good h) gb_good
abbrev gb_hd (y : MethodName) (n : Nat) : Prop := y.cls ≠ "java/lang/invoke/MethodHandle" ∧ y.cls ≠ "java/lang/invoke/VarHandle" ∧ (parseMethodDescriptor y.desc).map (fun d => d.parameters.length) = some n
/-- a call of an instance method, of a static one, of a constructor; the same within the nest -/
def gb_cb (M' : MT) (n : Nat) : Prop := Cond.initialized M'.2.2.2.2.cls ∈ gb_LW ∧ Cond.code M'.2.2.2.2 M'.1 M'.2.2.1 M'.2.2.2.1 ∈ gb_LW ∧ gb_hd M'.2.2.2.2 n ∧ M'.2.2.1 ≤ 40
def gb_cv (own : String) (idx : Nat) (M' : MT) (ci n : Nat) : Prop := gb_cb M' n ∧ Cond.methodLink own idx M'.2.2.2.2 ∈ gb_LW ∧ Cond.instanceMethod M'.2.2.2.2 ∈ gb_LW ∧ Cond.selects M'.2.2.2.2.cls M'.2.2.2.2 M'.2.2.2.2 ∈ gb_LW ∧ ci < 13 ∧ (vwCl[ci]?).map (fun r => r.1) = some M'.2.2.2.2.cls
def gb_cs (own : String) (idx : Nat) (M' : MT) (n : Nat) : Prop := gb_cb M' n ∧ Cond.methodLink own idx M'.2.2.2.2 ∈ gb_LW ∧ Cond.static M'.2.2.2.2 ∈ gb_LW
def gb_csn (own : String) (idx : Nat) (M' : MT) (n : Nat) (host : String) : Prop := gb_cb M' n ∧ (own, idx, M'.2.2.2.2, host) ∈ gb_NM ∧ Cond.static M'.2.2.2.2 ∈ gb_LW
def gb_ci (own : String) (idx : Nat) (M' : MT) (n : Nat) : Prop := gb_cb M' n ∧ Cond.methodLink own idx M'.2.2.2.2 ∈ gb_LW ∧ Cond.instanceMethod M'.2.2.2.2 ∈ gb_LW ∧ M'.2.2.2.2.name = "<init>" ∧ M'.2.2.2.1 = none
def gb_cin (own : String) (idx : Nat) (M' : MT) (n : Nat) (host : String) : Prop := gb_cb M' n ∧ (own, idx, M'.2.2.2.2, host) ∈ gb_NM ∧ Cond.instanceMethod M'.2.2.2.2 ∈ gb_LW ∧ M'.2.2.2.2.name = "<init>" ∧ M'.2.2.2.1 = none
section GC
variable {M : MT} {d bc bs pc : Nat} {ls : List (Option AV)} {st : List AV} {τ : TT} {h : HT} {Z : ZT}
theorem G_vret (hm : M.2.2.2.1 = none) (hd : decode M.1 pc = .ok (.return_, 1)) (hz : Z none τ h) : G_ M d bc bs pc ls [] τ h Z := by
  intro B p l e R s m args below meth c H locs cells slots cm sm la Q hC hR h1 h2 h3 h4 hL hE
  exact hE none τ h H locs cells slots pc la hz hR (by omega) (by omega) (by simp only [gb_rt, hm]; exact ⟨hd, trivial⟩)
theorem G_iret {v : Int} (hm : M.2.2.2.1 = some .int) (hd : decode M.1 pc = .ok (.ireturn, 1)) (hz : Z (some (.inl v)) τ h) : G_ M d bc bs pc ls [.inl v] τ h Z := by
  intro B p l e R s m args below meth c H locs cells slots cm sm la Q hC hR h1 h2 h3 h4 hL hE
  exact hE (some (.inl v)) τ h H locs cells slots pc la hz hR (by omega) (by omega) (by simp only [gb_rt, hm]; exact ⟨hd, v, rfl, rfl⟩)
theorem G_zret {v : Int} (hm : M.2.2.2.1 = some .boolean) (hv : v = 0 ∨ v = 1) (hd : decode M.1 pc = .ok (.ireturn, 1)) (hz : Z (some (.inl v)) τ h) : G_ M d bc bs pc ls [.inl v] τ h Z := by
  intro B p l e R s m args below meth c H locs cells slots cm sm la Q hC hR h1 h2 h3 h4 hL hE
  exact hE (some (.inl v)) τ h H locs cells slots pc la hz hR (by omega) (by omega) (by simp only [gb_rt, hm]; exact ⟨hd, v, rfl, gb_nz hv⟩)
theorem G_aret {v : Option Nat} {C : String} (hm : M.2.2.2.1 = some (.object C)) (hd : decode M.1 pc = .ok (.areturn, 1)) (hz : Z (some (.inr v)) τ h) : G_ M d bc bs pc ls [.inr v] τ h Z := by
  intro B p l e R s m args below meth c H locs cells slots cm sm la Q hC hR h1 h2 h3 h4 hL hE
  exact hE (some (.inr v)) τ h H locs cells slots pc la hz hR (by omega) (by omega) (by simp only [gb_rt, hm]; exact ⟨hd, v, rfl⟩)
theorem gb_tv_o (B : BT) (x : Option Nat) : gb_tv B (.inr x) = .null ∨ ∃ a, gb_tv B (.inr x) = .ref a := by
  cases x with
  | none => exact Or.inl rfl
  | some a => exact Or.inr ⟨_, rfl⟩
theorem gb_lgsl (B : BT) (as : List AV) : (lg_sl (as.map (gb_tv B))).length = as.length := by
  induction as with
  | nil => rfl
  | cons a t ih =>
    have hc := gb_cat B a
    have e : lg_sl ((a :: t).map (gb_tv B)) = (if (gb_tv B a).category = 2 then [Slot.val (gb_tv B a), Slot.second] else [Slot.val (gb_tv B a)]) ++ lg_sl (t.map (gb_tv B)) := by
      first | rfl | simp [lg_sl]
    rw [e, List.length_append, ih, if_neg (by rw [hc]; decide)]
    simp
    omega
theorem gb_args (B : BT) : ∀ (as : List AV) (n i : Nat) (v : AV), as[i]? = some v → (n + i, gb_tv B v) ∈ lv_args n (as.map (gb_tv B))
  | [], n, i, v, h => by simp at h
  | a :: t, n, 0, v, h => by
    simp at h
    subst h
    simp [lv_args]
  | a :: t, n, i + 1, v, h => by
    have := gb_args B t (n + 1) i v (by simpa using h)
    simp only [List.map_cons, lv_args, gb_cat]
    refine List.mem_cons_of_mem _ ?_
    rw [show n + (i + 1) = n + 1 + i by omega]
    exact this
/-- a contract out of a walk -/
theorem S_ofG {as : List AV} (hy : plainName M.2.2.2.2.cls = true) (hown : M.2.2.2.2.cls = M.2.1) (hn : as.length ≤ M.2.2.1) (g : G_ M d bc bs 0 (as.map some) [] τ h Z) : S_ M d bc bs as τ h Z := by
  intro l B
  refine Met.ofW (cc := M.1) (maxL := M.2.2.1) (ret := M.2.2.2.1) hy rfl ?_
  intro p e s m args below meth c s₁ BB hml hv
  obtain ⟨rfl, hRU, hSF, hbz⟩ := hv
  have hts := atoms_spec (ws := gb_ws M) BB.pre
  have hfc : s.vm.findClass M.2.2.2.2.cls = some m.cls := findClass_of_methodNamed BB.named
  have hnm : meth.name = M.2.2.2.2.name := (name_of_methodNamed BB.named BB.method).1
  have hr := BB.returns
  have hlocks := BB.notSynchronized
  have hle : (lg_sl (as.map (gb_tv B))).length ≤ M.2.2.1 := by rw [gb_lgsl]; exact hn
  have hl := lv_entry (as.map (gb_tv B)) (n := M.2.2.1) hle
  rw [lg_entry_eq]
  generalize (lg_sl (as.map (gb_tv B)) ++ List.replicate (M.2.2.1 - (lg_sl (as.map (gb_tv B))).length) Slot.unset).toArray = la at hl ⊢
  have hC : gb_CX M d B p (headSpec (gb_ws M) (gb_rm d bc bs)).room s m (as.map (gb_tv B)).toArray meth c :=
    ⟨BB.exec, BB.bytes, hml, by rw [← hown]; exact hfc, fun w hw => hts w (List.mem_cons_of_mem _ hw), Nat.le_refl _, Nat.le_refl _, hSF, hbz, hnm⟩
  have hL : gb_LR B M.2.2.1 (as.map some) la := by
    refine ⟨⟨hl.1, hl.2.1, fun q hq => by cases hq⟩, fun i v hi => ?_⟩
    rw [List.getElem?_map] at hi
    cases hq : as[i]? with
    | none => rw [hq] at hi; cases hi
    | some w =>
      rw [hq] at hi
      cases hi
      have := hl.2.2 _ (gb_args B as 0 i v hq)
      rwa [Nat.zero_add] at this
  refine g B p l e _ s m _ below meth c s.heap [] 0 0 bc bs la _ hC ⟨hRU, va_S.rf⟩ (by omega) (by omega) (Nat.le_refl _) (Nat.le_refl _) hL ?_
  intro r τ' h' H' locs' cells' slots' pc' la' hz hR' q1 q2 hrt
  refine W.widen (k := bc) (n := bs) q1 q2 ?_
  have hq : ∀ t : State, t.heap = H' → s.WarmedH t.vm → gb_Q B Z (as.map (gb_tv B)).toArray s (.returned (r.map (gb_tv B))) t := fun t ht hW => ⟨⟨r, τ', h', rfl, hz, by rw [ht]; exact hR'.1⟩, hR'.2.F ht⟩
  unfold gb_rt at hrt
  split at hrt
  · rename_i hm
    obtain ⟨hd, rfl⟩ := hrt
    exact W.vret BB.exec BB.bytes (by rw [hr, hm]) hq hR'.2.2.2 hd
  · rename_i ty hm
    split at hrt
    · rename_i hR2
      obtain ⟨hd, x, rfl⟩ := hrt
      refine W.aret BB.exec BB.bytes (by rw [hr, hm]) ?_ (gb_tv_o B x) hq hR'.2.2.2 hd
      cases ty <;> first | exact Or.inl ⟨_, rfl⟩ | exact Or.inr ⟨_, rfl⟩ | exact absurd hR2 (by decide)
    · obtain ⟨hd, x, rfl, hnn⟩ := hrt
      exact W.zret BB.exec BB.bytes (by rw [hr, hm]) hnn hq hR'.2.2.2 hd
theorem gb_back {B : BT} {p : Program} {l : Launch} {e : Env} {R : Room} {s : State} {m : MethodId} {args : Array Value} {below : List Frame} {meth : Method} {c : Code} {H : Heap} {locs : List Loc} {cells slots mc ms : Nat} {Q : State → Prop} {la : Array Slot} {st0 rest : List Value} {Z' : ZT} {a : Array Value} (hr : va_Run p l e R s m args below meth c H locs cells slots mc ms (F0 m pc la st0) rest (gb_Q B Z' a) (gb_A B)) (hS : va_S (gb_A B) s.heap H locs)
    (kk : ∀ (r : Option AV) (τ' : TT) (h' : HT) (H1 : Heap) (locs1 : List Loc), Z' r τ' h' → gb_RP B τ' h' s H1 locs1 → W p l e R s m args below meth c H1 locs1 (cells + mc) (slots + ms) Q (F0 m (pc + 3) la ((r.map (gb_tv B)).toList ++ rest))) : W p l e R s m args below meth c H locs cells slots Q (F0 m pc la st0) := by
  intro T hT X
  obtain ⟨v, st₀, t, T', L, h0, X', hL, e1, e2, ⟨⟨r, τ', h', hv, hz, hu⟩, hz1, hk⟩, stp⟩ := hr T hT X
  cases hv
  rw [h0] at hz1 hk
  obtain ⟨t2, a1, b1⟩ := kk r τ' h' T'.heap (locs ++ L) hz ⟨by rw [e1]; exact hu, ⟨Nat.le_trans hS.1 (by rw [e1]; exact hz1), fun q g1 g2 => by rw [e1, hk q (Nat.lt_of_lt_of_le g1 hS.1) g2]; exact hS.2.1 q g1 g2, fun q hq => by
      rcases List.mem_append.mp hq with h | h
      · exact hS.2.2 q h
      · exact hL q h⟩⟩ T' rfl X'
  exact ⟨t2, stp t2 a1, b1⟩
theorem gb_pre {B : BT} {p : Program} {R : Room} {s : State} {m : MethodId} {args : Array Value} {meth : Method} {c : Code} {H : Heap} {locs : List Loc} {as : List AV} (hC : gb_CX M d B p R s m args meth c) (hR : gb_RP B τ h s H locs) (U : State) (hU : U.heap = H) (hW : s.WarmedH U.vm) : gb_P B as τ h (as.map (gb_tv B)).toArray U := by
  refine ⟨rfl, by rw [hU]; exact hR.1, ?_, ?_⟩
  · rw [hU]
    exact hC.2.2.2.2.2.2.2.1.moved hW hC.2.2.2.2.2.2.2.2.1 hR.2.2.1
  · rw [hU]
    exact Nat.le_trans hC.2.2.2.2.2.2.2.2.1 hR.2.1
theorem gb_lw {pc0 : Nat} {B : BT} {m : MethodId} {la : Array Slot} {s0 : List Value} {st : List AV} (hl : st.length ≤ 8) : 2 * (F0 m pc0 la s0).monitorRoom + ((st.map (gb_tv B)).map fun v => v.category).sum ≤ 8 := lv_room (m := m) (pc := pc0) (ls := la) (rest := s0) (by rw [gb_cats]; exact hl)
theorem G_callV {M' : MT} {idx ci n a bc' bs' : Nat} {as st0 : List AV} {Z' : ZT} (hc : gb_cv M.2.1 idx M' ci n) (hs : S_ M' d bc' bs' (.inr (some a) :: as) τ h Z') (hst : as.reverse ++ .inr (some a) :: st = st0) (hn : as.length = n) (hl : st.length ≤ 8) (ho : ob_ τ a ci) (hd : decode M.1 pc = .ok (.invokevirtual idx, 3)) (kk : ∀ r τ' h', Z' r τ' h' → G_ M (d + 1) bc bs (pc + 3) ls (r.toList ++ st) τ' h' Z) : G_ M (d + 1) (bc' + bc) (bs' + bs) pc ls st0 τ h Z := by
  intro B p l e R s m args below meth c H locs cells slots cm sm la Q hC hR h1 h2 h3 h4 hL hE
  obtain ⟨⟨c1, c2, c3, c4⟩, c5, c6, c7, c8, c9⟩ := hc
  have hts := hC.2.2.2.2.1
  have he : (gb_w B τ h)[gb_ps a]? = some (gb_ad B a, .inr (ci, gb_fl B τ h a)) := by rw [gb_w_get ho.1 (gb_ng hR.1 ho.1 ho.2 (by omega)), gb_ent_o ho.2 c8]
  cases hq : vwCl[ci]? with
  | none => rw [hq] at c9; cases c9
  | some q =>
    rw [hq] at c9
    have hrv := va_recv hC.2.2.2.2.2.2.2.1.1 hR.1.1 hq he
    rw [show q.1 = M'.2.2.2.2.cls from Option.some.inj c9] at hrv
    have hfr := hC.2.2.2.2.2.1
    have hlo := hC.2.2.2.2.2.2.1
    have hCB : CallB R s args M.2.1 idx M'.2.2.2.2 M'.1 M'.2.2.1 M'.2.2.2.1 (gb_ws M') (gb_rm d bc' bs') bc' bs' n := callB_of n hts (gb_GI c2) rfl rfl rfl (hts _ c1) (hts _ c5) c3 ⟨hfr, by show 8 + (_ + 11) + 60 * d ≤ _; omega⟩
    refine gb_back (va_runV (n := n) (b := gb_ad B a) (As := as.map (gb_tv B)) (rest := st.map (gb_tv B)) (Pc := gb_P B (.inr (some a) :: as) τ h) (Qc := gb_Q B Z') (g := F0 m pc la (st0.map (gb_tv B))) ⟨hC.1, hC.2.1, hC.2.2.1, hC.2.2.2.1, hts⟩ (hs l B) ⟨hCB, hts _ c6, hts _ c7⟩ ⟨gb_FB, hrv, fun U hU hW => gb_pre (as := .inr (some a) :: as) hC hR U hU hW⟩ rfl (by rw [List.length_map]; exact hn) (by show la.size = _; exact hL.1.1) (by show st0.map (gb_tv B) = _; rw [← hst]; simp; rfl) (gb_lw hl) hd ⟨by omega, by omega⟩) hR.2 (fun r τ' h' H1 locs1 hz hR1 => ?_)
    have := kk r τ' h' hz B p l e R s m args below meth c H1 locs1 (cells + bc') (slots + bs') cm sm la Q hC hR1 (by omega) (by omega) h3 h4 hL hE
    rw [List.map_append] at this
    cases r <;> exact this
theorem G_callS {M' : MT} {idx n bc' bs' : Nat} {as st0 : List AV} {Z' : ZT} (hc : gb_cs M.2.1 idx M' n) (hs : S_ M' d bc' bs' as τ h Z') (hst : as.reverse ++ st = st0) (hn : as.length = n) (hl : st.length ≤ 8) (hd : decode M.1 pc = .ok (.invokestatic idx, 3)) (kk : ∀ r τ' h', Z' r τ' h' → G_ M (d + 1) bc bs (pc + 3) ls (r.toList ++ st) τ' h' Z) : G_ M (d + 1) (bc' + bc) (bs' + bs) pc ls st0 τ h Z := by
  intro B p l e R s m args below meth c H locs cells slots cm sm la Q hC hR h1 h2 h3 h4 hL hE
  obtain ⟨⟨c1, c2, c3, c4⟩, c5, c6⟩ := hc
  have hts := hC.2.2.2.2.1
  have hfr := hC.2.2.2.2.2.1
  have hlo := hC.2.2.2.2.2.2.1
  have hCB : CallB R s args M.2.1 idx M'.2.2.2.2 M'.1 M'.2.2.1 M'.2.2.2.1 (gb_ws M') (gb_rm d bc' bs') bc' bs' n := callB_of n hts (gb_GI c2) rfl rfl rfl (hts _ c1) (hts _ c5) c3 ⟨hfr, by show 8 + (_ + 11) + 60 * d ≤ _; omega⟩
  refine gb_back (va_runS (n := n) (As := as.map (gb_tv B)) (rest := st.map (gb_tv B)) (Pc := gb_P B as τ h) (Qc := gb_Q B Z') (g := F0 m pc la (st0.map (gb_tv B))) ⟨hC.1, hC.2.1, hC.2.2.1, hC.2.2.2.1, hts⟩ (hs l B) ⟨hCB, hts _ c6⟩ ⟨gb_FB, fun U hU hW => gb_pre hC hR U hU hW⟩ rfl (by rw [List.length_map]; exact hn) (by show la.size = _; exact hL.1.1) (by show st0.map (gb_tv B) = _; rw [← hst]; simp) (gb_lw hl) hd ⟨by omega, by omega⟩) hR.2 (fun r τ' h' H1 locs1 hz hR1 => ?_)
  have := kk r τ' h' hz B p l e R s m args below meth c H1 locs1 (cells + bc') (slots + bs') cm sm la Q hC hR1 (by omega) (by omega) h3 h4 hL hE
  rw [List.map_append] at this
  cases r <;> exact this
theorem G_callSN {M' : MT} {idx n bc' bs' : Nat} {host : String} {as st0 : List AV} {Z' : ZT} (hc : gb_csn M.2.1 idx M' n host) (hs : S_ M' d bc' bs' as τ h Z') (hst : as.reverse ++ st = st0) (hn : as.length = n) (hl : st.length ≤ 8) (hd : decode M.1 pc = .ok (.invokestatic idx, 3)) (kk : ∀ r τ' h', Z' r τ' h' → G_ M (d + 1) bc bs (pc + 3) ls (r.toList ++ st) τ' h' Z) : G_ M (d + 1) (bc' + bc) (bs' + bs) pc ls st0 τ h Z := by
  intro B p l e R s m args below meth c H locs cells slots cm sm la Q hC hR h1 h2 h3 h4 hL hE
  obtain ⟨⟨c1, c2, c3, c4⟩, c5, c6⟩ := hc
  have hts := hC.2.2.2.2.1
  have hfr := hC.2.2.2.2.2.1
  have hlo := hC.2.2.2.2.2.2.1
  have hCB : va_CN R s args M.2.1 idx M'.2.2.2.2 host M'.1 M'.2.2.1 M'.2.2.2.1 (gb_ws M') (gb_rm d bc' bs') bc' bs' n := va_cnB n hts (gb_GI c2) rfl rfl rfl (hC.2.2.2.2.2.2.2.1.2.1 _ c5) (hts _ c1) c3 ⟨hfr, by show 8 + (_ + 11) + 60 * d ≤ _; omega⟩
  refine gb_back (va_runSN (n := n) (As := as.map (gb_tv B)) (rest := st.map (gb_tv B)) (Pc := gb_P B as τ h) (Qc := gb_Q B Z') (g := F0 m pc la (st0.map (gb_tv B))) ⟨hC.1, hC.2.1, hC.2.2.1, hC.2.2.2.1, hts⟩ (hs l B) ⟨hCB, hts _ c6, trivial⟩ ⟨gb_FB, fun U hU hW => gb_pre hC hR U hU hW⟩ rfl (by rw [List.length_map]; exact hn) (by show la.size = _; exact hL.1.1) (by show st0.map (gb_tv B) = _; rw [← hst]; simp) (gb_lw hl) hd ⟨by omega, by omega⟩) hR.2 (fun r τ' h' H1 locs1 hz hR1 => ?_)
  have := kk r τ' h' hz B p l e R s m args below meth c H1 locs1 (cells + bc') (slots + bs') cm sm la Q hC hR1 (by omega) (by omega) h3 h4 hL hE
  rw [List.map_append] at this
  cases r <;> exact this
theorem G_callI {M' : MT} {idx n a bc' bs' : Nat} {as st0 : List AV} {Z' : ZT} (hc : gb_ci M.2.1 idx M' n) (hs : S_ M' d bc' bs' (.inr (some a) :: as) τ h Z') (hst : as.reverse ++ .inr (some a) :: st = st0) (hn : as.length = n) (hl : st.length ≤ 8) (hd : decode M.1 pc = .ok (.invokespecial idx, 3)) (kk : ∀ r τ' h', Z' r τ' h' → G_ M (d + 1) bc bs (pc + 3) ls (r.toList ++ st) τ' h' Z) : G_ M (d + 1) (bc' + bc) (bs' + bs) pc ls st0 τ h Z := by
  intro B p l e R s m args below meth c H locs cells slots cm sm la Q hC hR h1 h2 h3 h4 hL hE
  obtain ⟨⟨c1, c2, c3, c4⟩, c5, c6, c7, c8⟩ := hc
  have hts := hC.2.2.2.2.1
  have hfr := hC.2.2.2.2.2.1
  have hlo := hC.2.2.2.2.2.2.1
  have hCB : CallB R s args M.2.1 idx M'.2.2.2.2 M'.1 M'.2.2.1 M'.2.2.2.1 (gb_ws M') (gb_rm d bc' bs') bc' bs' n := callB_of n hts (gb_GI c2) rfl rfl rfl (hts _ c1) (hts _ c5) c3 ⟨hfr, by show 8 + (_ + 11) + 60 * d ≤ _; omega⟩
  rw [c8] at hCB
  refine gb_back (va_runI (n := n) (b := gb_ad B a) (As := as.map (gb_tv B)) (rest := st.map (gb_tv B)) (Pc := gb_P B (.inr (some a) :: as) τ h) (Qc := gb_Q B Z') (g := F0 m pc la (st0.map (gb_tv B))) ⟨hC.1, hC.2.1, hC.2.2.1, hC.2.2.2.1, hts⟩ (hs l B) ⟨hCB, c7, hts _ c6⟩ ⟨gb_FB, fun U hU hW => gb_pre (as := .inr (some a) :: as) hC hR U hU hW⟩ rfl (by rw [List.length_map]; exact hn) (by show la.size = _; exact hL.1.1) (by show st0.map (gb_tv B) = _; rw [← hst]; simp; rfl) (gb_lw hl) hd ⟨by omega, by omega⟩) hR.2 (fun r τ' h' H1 locs1 hz hR1 => ?_)
  have := kk r τ' h' hz B p l e R s m args below meth c H1 locs1 (cells + bc') (slots + bs') cm sm la Q hC hR1 (by omega) (by omega) h3 h4 hL hE
  rw [List.map_append] at this
  cases r <;> exact this
theorem G_callIN {M' : MT} {idx n a bc' bs' : Nat} {host : String} {as st0 : List AV} {Z' : ZT} (hc : gb_cin M.2.1 idx M' n host) (hs : S_ M' d bc' bs' (.inr (some a) :: as) τ h Z') (hst : as.reverse ++ .inr (some a) :: st = st0) (hn : as.length = n) (hl : st.length ≤ 8) (hd : decode M.1 pc = .ok (.invokespecial idx, 3)) (kk : ∀ r τ' h', Z' r τ' h' → G_ M (d + 1) bc bs (pc + 3) ls (r.toList ++ st) τ' h' Z) : G_ M (d + 1) (bc' + bc) (bs' + bs) pc ls st0 τ h Z := by
  intro B p l e R s m args below meth c H locs cells slots cm sm la Q hC hR h1 h2 h3 h4 hL hE
  obtain ⟨⟨c1, c2, c3, c4⟩, c5, c6, c7, c8⟩ := hc
  have hts := hC.2.2.2.2.1
  have hfr := hC.2.2.2.2.2.1
  have hlo := hC.2.2.2.2.2.2.1
  have hCB : va_CN R s args M.2.1 idx M'.2.2.2.2 host M'.1 M'.2.2.1 M'.2.2.2.1 (gb_ws M') (gb_rm d bc' bs') bc' bs' n := va_cnB n hts (gb_GI c2) rfl rfl rfl (hC.2.2.2.2.2.2.2.1.2.1 _ c5) (hts _ c1) c3 ⟨hfr, by show 8 + (_ + 11) + 60 * d ≤ _; omega⟩
  rw [c8] at hCB
  refine gb_back (va_runIN (n := n) (b := gb_ad B a) (As := as.map (gb_tv B)) (rest := st.map (gb_tv B)) (Pc := gb_P B (.inr (some a) :: as) τ h) (Qc := gb_Q B Z') (g := F0 m pc la (st0.map (gb_tv B))) ⟨hC.1, hC.2.1, hC.2.2.1, hC.2.2.2.1, hts⟩ (hs l B) ⟨hCB, c7, hts _ c6⟩ ⟨gb_FB, fun U hU hW => gb_pre (as := .inr (some a) :: as) hC hR U hU hW⟩ rfl (by rw [List.length_map]; exact hn) (by show la.size = _; exact hL.1.1) (by show st0.map (gb_tv B) = _; rw [← hst]; simp; rfl) (gb_lw hl) hd ⟨by omega, by omega⟩) hR.2 (fun r τ' h' H1 locs1 hz hR1 => ?_)
  have := kk r τ' h' hz B p l e R s m args below meth c H1 locs1 (cells + bc') (slots + bs') cm sm la Q hC hR1 (by omega) (by omega) h3 h4 hL hE
  rw [List.map_append] at this
  cases r <;> exact this
theorem G_obj {idx a : Nat} (hc : Cond.methodLink M.2.1 idx objectInit ∈ gb_LW ∧ Cond.instanceMethod objectInit ∈ gb_LW ∧ Cond.code objectInit ⟨#[0xb1]⟩ 1 none ∈ gb_LW) (hl : st.length ≤ 8) (hd : decode M.1 pc = .ok (.invokespecial idx, 3)) (kk : G_ M (d + 1) bc bs (pc + 3) ls st τ h Z) : G_ M (d + 1) bc bs pc ls (.inr (some a) :: st) τ h Z := by
  intro B p l e R s m args below meth c H locs cells slots cm sm la Q hC hR h1 h2 h3 h4 hL hE
  have hts := hC.2.2.2.2.1
  have hfr := hC.2.2.2.2.2.1
  have hlo := hC.2.2.2.2.2.2.1
  have hw := gb_lw (B := B) (pc0 := pc) (m := m) (la := la) (s0 := (.inr (some a) :: st : List AV).map (gb_tv B)) hl
  exact W.objInit hC.1 hC.2.1 hC.2.2.2.1 (hts _ hc.1) (hts _ hc.2.1) (hts _ hc.2.2) rfl (by show la.size = _; rw [hC.2.2.1]; exact hL.1.1) rfl hd (by omega) (by omega) (kk B p l e R s m args below meth c H locs cells slots cm sm la Q hC hR h1 h2 h3 h4 hL hE)
end GC
