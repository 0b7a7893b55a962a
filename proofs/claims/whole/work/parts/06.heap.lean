/-! rows of the judgement: fields and arrays -/
/-- a class as the tables have it -/
def gb_cls (ci : Nat) (C : String) (T : u_T) (N : Nat) (ty : Nat → FieldType) : Prop := vwCl[ci]? = some (C, T, N) ∧ (∀ w ∈ u_ws C T N, w ∈ gb_LW) ∧ (∀ k, k < N → parseFieldDescriptor (T k).2.2.1 = some (ty k)) ∧ (∀ a, a < N → ∀ b, b < N → a ≠ b → (T a).2.1 ≠ (T b).2.1) ∧ gb_nsl ci = N ∧ gb_ty ci = ty ∧ Cond.instantiable C N ∈ gb_LW ∧ Cond.initialized C ∈ gb_LW ∧ ci < 13
/-- an entry of a class's pool is the field k of class ci -/
def gb_fld (own : String) (idx ci k : Nat) (t : FieldType) (fin : Bool) : Prop := ∃ (C : String) (T : u_T) (N : Nat) (ty : Nat → FieldType), gb_cls ci C T N ty ∧ k < N ∧ (T k).1 = C ∧ ty k = t ∧ (T k).2.2.2 = fin ∧ Cond.fieldLink own idx C (T k).2.1 (T k).2.2.1 ∈ gb_LW
def ob_ (τ : TT) (a ci : Nat) : Prop := a < τ.1 ∧ τ.2.1 a = ci
def ar_ (τ : TT) (a ci n : Nat) : Prop := a < τ.1 ∧ τ.2.1 a = ci ∧ τ.2.2.1 a = n ∧ n < 2147483648
theorem gb_vcl {ci : Nat} {r : vw_C} (h : vwCl[ci]? = some r) : ci < 13 := by
  have := (List.getElem?_eq_some_iff.mp h).1
  exact this
theorem gb_ad_lt {B : BT} {k : Nat} (h : k < 1000000) : gb_ad B k = B.1 + gb_ps k := if_pos h
section GH
variable {M : MT} {d bc bs pc : Nat} {ls : List (Option AV)} {st : List AV} {τ : TT} {h : HT} {Z : ZT}
theorem G_getI {idx ci k a : Nat} {t : FieldType} {fin : Bool} {v : Int} (hf : gb_fld M.2.1 idx ci k t fin) (hr : gb_isR t = false) (hd : decode M.1 pc = .ok (.getfield idx, 3)) (ho : ob_ τ a ci) (hv : h a k = v) (kk : G_ M d bc bs (pc + 3) ls (.inl v :: st) τ h Z) : G_ M d bc bs pc ls (.inr (some a) :: st) τ h Z := by
  intro B p l e R s m args below meth c H locs cells slots cm sm la Q hC hR h1 h2 h3 h4 hL hE
  obtain ⟨C, T, N, ty, ⟨c1, c2, c3, c4, c5, c6, c7, c8, c9⟩, f1, f2, f3, f4, f5⟩ := hf
  subst hv
  refine va_get (D := B.2.1) (ci := ci) (v := .int (Int32.ofInt (h a k))) (C := C) (T := T) (N := N) hC.1 hC.2.1 hC.2.2.2.2.1 c2 hC.2.2.2.1 hC.2.2.2.2.2.2.2.1.1 hR.1.1 (gb_ps a) (by rw [gb_w_get ho.1 (gb_ng hR.1 ho.1 ho.2 (by omega)), gb_ent_o ho.2 c9]) c1 k f1 (hC.2.2.2.2.1 _ f5) (fun x hx => by rw [f2] at hx; exact hx) ?_ hd (kk B p l e R s m args below meth c H locs cells slots cm sm la Q hC hR h1 h2 h3 h4 hL hE)
  rw [gb_fl_get (by rw [ho.2, c5]; exact f1)]
  unfold gb_fv
  rw [ho.2, c6, f3, if_neg (by rw [hr]; decide)]
theorem G_getR {idx ci k a : Nat} {t : FieldType} {fin : Bool} {v : Option Nat} (hf : gb_fld M.2.1 idx ci k t fin) (hr : gb_isR t = true) (hd : decode M.1 pc = .ok (.getfield idx, 3)) (ho : ob_ τ a ci) (hv : τ.2.2.2 a k = v) (kk : G_ M d bc bs (pc + 3) ls (.inr v :: st) τ h Z) : G_ M d bc bs pc ls (.inr (some a) :: st) τ h Z := by
  intro B p l e R s m args below meth c H locs cells slots cm sm la Q hC hR h1 h2 h3 h4 hL hE
  obtain ⟨C, T, N, ty, ⟨c1, c2, c3, c4, c5, c6, c7, c8, c9⟩, f1, f2, f3, f4, f5⟩ := hf
  subst hv
  refine va_get (D := B.2.1) (ci := ci) (v := va_rf ((τ.2.2.2 a k).map (gb_ad B))) (C := C) (T := T) (N := N) hC.1 hC.2.1 hC.2.2.2.2.1 c2 hC.2.2.2.1 hC.2.2.2.2.2.2.2.1.1 hR.1.1 (gb_ps a) (by rw [gb_w_get ho.1 (gb_ng hR.1 ho.1 ho.2 (by omega)), gb_ent_o ho.2 c9]) c1 k f1 (hC.2.2.2.2.1 _ f5) (fun x hx => by rw [f2] at hx; exact hx) ?_ hd (kk B p l e R s m args below meth c H locs cells slots cm sm la Q hC hR h1 h2 h3 h4 hL hE)
  rw [gb_fl_get (by rw [ho.2, c5]; exact f1)]
  unfold gb_fv
  rw [ho.2, c6, f3, if_pos hr]
theorem gb_putw {B : BT} {ci a k : Nat} {v : Int} (ho : ob_ τ a ci) (hg : a ≠ 64) (c9 : ci < 13) (hr : gb_isR (gb_ty ci k) = false) : (gb_w B τ h).set (gb_ps a) (gb_ad B a, .inr (ci, (gb_fl B τ h a).set k (.int (Int32.ofInt v)))) = gb_w B τ (hs_ h a k v) := by
  refine gb_w_set ho.1 hg rfl ?_ (fun b hb => gb_ent_ne fun i => hs_na hb)
  rw [gb_ent_o ho.2 c9, gb_fl_set (by rw [ho.2]; exact hr)]
theorem gb_fl_len {B : BT} {a ci : Nat} (ho : ob_ τ a ci) : (gb_fl B τ h a).length = gb_nsl ci := by
  simp [gb_fl, ho.2]
theorem gb_vput {B : BT} {p : Program} {l : Launch} {e : Env} {R : Room} {s : State} {m : MethodId} {args : Array Value} {below : List Frame} {meth : Method} {c : Code} {H : Heap} {locs : List Loc} {cells slots : Nat} {Q : State → Prop} {la : Array Slot} {rest : List Value} {idx ci k a : Nat} {t : FieldType} {v : Value} (hC : gb_CX M d B p R s m args meth c) (hR : gb_RP B τ h s H locs) {fin : Bool} (hf : gb_fld M.2.1 idx ci k t fin) (hfin : fin = true → M.2.2.2.2.name = "<init>" ∧ (vwCl[ci]?).map (fun r => r.1) = some M.2.1) (hn : narrow t v = v) (hfit : fits t v = true) (hd : decode M.1 pc = .ok (.putfield idx, 3)) (ho : ob_ τ a ci)
    (kk : ∀ (H1 : Heap) (locs1 : List Loc), va_P B.2.1 vwCl ((gb_w B τ h).set (gb_ps a) (gb_ad B a, .inr (ci, (gb_fl B τ h a).set k v))) H1 → va_D (gb_A B) ((gb_w B τ h).set (gb_ps a) (gb_ad B a, .inr (ci, (gb_fl B τ h a).set k v))) → va_S (gb_A B) s.heap H1 locs1 → H1.size = H.size → W p l e R s m args below meth c H1 locs1 cells slots Q (F0 m (pc + 3) la rest)) : W p l e R s m args below meth c H locs cells slots Q (F0 m pc la (v :: .ref (gb_ad B a) :: rest)) := by
  obtain ⟨C, T, N, ty, ⟨c1, c2, c3, c4, c5, c6, c7, c8, c9⟩, f1, f2, f3, f4, f5⟩ := hf
  have hg : a ≠ 64 := gb_ng hR.1 ho.1 ho.2 (by omega)
  obtain ⟨⟨hP, hD, -, -⟩, hS0⟩ := hR
  obtain ⟨hx, hb, -, hown, hts, -, -, hSF, -, hnm⟩ := hC
  have hK := hSF.1
  have he : (gb_w B τ h)[gb_ps a]? = some (gb_ad B a, .inr (ci, gb_fl B τ h a)) := by rw [gb_w_get ho.1 hg, gb_ent_o ho.2 c9]
  have hap := va_apart (own := C) hts c2 ty c3 c4 hK c1
  obtain ⟨r, h1, cell, q1, q2, q3, q4⟩ := hP (gb_ps a) _ he
  have hr : r = (C, T, N) := Option.some.inj (h1.symm.trans c1)
  subst hr
  obtain ⟨hS, hfc, kC, hkC, hkind⟩ := hK.1 ci _ c1
  obtain ⟨cf, kf, fi, f, hi, hsl⟩ := hS k f1
  have hlay := hts _ (c2 _ (u_in_lay f1))
  have hst := (u_facts hfc hkC (u_lays hts c2 f1) hi).1
  have hdesc : parseFieldDescriptor (T k).2.2.1 = some t := by rw [c3 k f1, f3]
  have hlen : k < (gb_fl B τ h a).length := by rw [gb_fl_len ho, c5]; exact f1
  have hlink := hts _ f5
  rw [← f2] at hlink
  have fini : ∀ H' : Heap, H'[gb_ad B a]? = some (cell.setSlot f.slot v) → H'.size = H.size → (∀ q, q ≠ gb_ad B a → H'[q]? = H[q]?) → W p l e R s m args below meth c H' (locs ++ [⟨gb_ad B a, f.slot⟩]) cells slots Q (F0 m (pc + 3) la rest) := by
    intro H' e1 e2 e3
    rw [hsl] at e1 ⊢
    exact kk H' _ (hP.set hD he ⟨_, c1, t_OB.to (V := updV (vp_V (gb_fl B τ h a)) k v) ⟨_, e1, q2, q3, t_set q4 hap f1 v⟩ (fun j _ => vp_updV_set hlen v j)⟩ e3) (hD.set he) (hS0.put e2 e3 (hD.2 (gb_ps a) _ he)) e2
  cases fin with
  | false =>
    unfold u_lay at hlay
    rw [if_neg (by rw [f4]; decide)] at hlay
    have h6 := u_store hfc hkC hkind hlay hi hdesc hn hfit
    exact W.putK hx hb (f := f) ⟨hown, hlink, ⟨_, _, _, hi⟩, hst⟩ (by rw [q2]; exact h6) q1 q3 (by rw [hsl]; exact k2_hasslot (q4 k f1)) rfl rfl hd fini
  | true =>
    obtain ⟨hin, hCo⟩ := hfin rfl
    rw [c1] at hCo
    have hdecl : (T k).1 = M.2.1 := by rw [f2]; exact Option.some.inj hCo
    unfold u_lay at hlay
    rw [if_pos f4] at hlay
    have hcf : m.cls = cf := by
      obtain ⟨_, _, c', _, _, _, -, -, hf', -, -, -, hown2, -⟩ := Cond.laysFinal_spec hlay
      have e1 : c' = cf := by have := hi.symm.trans hf'; simp at this; exact this.1.symm
      rw [hdecl] at hown2
      rw [← e1]; exact Option.some.inj (hown.symm.trans hown2)
    have h6 := u_fits hfc hkC hkind (Or.inr hlay) hi hdesc hn hfit
    exact W.putFinK hx hb hown hlink hi hst hcf (hnm.trans hin) (by rw [q2]; exact h6) q1 q3 (by rw [hsl]; exact k2_hasslot (q4 k f1)) rfl rfl hd fini
theorem gb_put {idx ci k a : Nat} {t : FieldType} {v : Int} {fin : Bool} (hf : gb_fld M.2.1 idx ci k t fin) (hfin : fin = true → M.2.2.2.2.name = "<init>" ∧ (vwCl[ci]?).map (fun r => r.1) = some M.2.1) (hr : gb_isR t = false) (hn : narrow t (.int (Int32.ofInt v)) = .int (Int32.ofInt v)) (hfit : fits t (.int (Int32.ofInt v)) = true) (hd : decode M.1 pc = .ok (.putfield idx, 3)) (ho : ob_ τ a ci) (kk : G_ M d bc bs (pc + 3) ls st τ (hs_ h a k v) Z) : G_ M d bc bs pc ls (.inl v :: .inr (some a) :: st) τ h Z := by
  intro B p l e R s m args below meth c H locs cells slots cm sm la Q hC hR h1 h2 h3 h4 hL hE
  refine gb_vput (v := .int (Int32.ofInt v)) hC hR hf hfin hn hfit hd ho (fun H1 locs1 hP hD hS hz => ?_)
  obtain ⟨C, T, N, ty, ⟨c1, c2, c3, c4, c5, c6, c7, c8, c9⟩, f1, f2, f3, f4, f5⟩ := hf
  have hg : a ≠ 64 := gb_ng hR.1 ho.1 ho.2 (by omega)
  rw [gb_putw ho hg c9 (by rw [c6, f3]; exact hr)] at hP hD
  exact kk B p l e R s m args below meth c H1 locs1 cells slots cm sm la Q hC ⟨⟨hP, hD, hz.trans hR.1.2.2.1, hR.1.2.2.2⟩, hS⟩ h1 h2 h3 h4 hL hE
theorem G_putI {idx ci k a : Nat} {v : Int} (hf : gb_fld M.2.1 idx ci k .int false) (hd : decode M.1 pc = .ok (.putfield idx, 3)) (ho : ob_ τ a ci) (kk : G_ M d bc bs (pc + 3) ls st τ (hs_ h a k v) Z) : G_ M d bc bs pc ls (.inl v :: .inr (some a) :: st) τ h Z := gb_put hf (fun q => by cases q) rfl rfl rfl hd ho kk
theorem G_putFI {idx ci k a : Nat} {v : Int} (hf : gb_fld M.2.1 idx ci k .int true) (hi : M.2.2.2.2.name = "<init>" ∧ (vwCl[ci]?).map (fun r => r.1) = some M.2.1) (hd : decode M.1 pc = .ok (.putfield idx, 3)) (ho : ob_ τ a ci) (kk : G_ M d bc bs (pc + 3) ls st τ (hs_ h a k v) Z) : G_ M d bc bs pc ls (.inl v :: .inr (some a) :: st) τ h Z := gb_put hf (fun _ => hi) rfl rfl rfl hd ho kk
theorem gb_nz {v : Int} (hv : v = 0 ∨ v = 1) : narrow .boolean (.int (Int32.ofInt v)) = .int (Int32.ofInt v) := by
  rcases hv with rfl | rfl
  · exact narrow_b0
  · exact narrow_b1
theorem gb_fz {v : Int} (hv : v = 0 ∨ v = 1) : fits .boolean (.int (Int32.ofInt v)) = true := by
  rcases hv with rfl | rfl <;> decide
theorem G_putZ {idx ci k a : Nat} {v : Int} (hf : gb_fld M.2.1 idx ci k .boolean false) (hv : v = 0 ∨ v = 1) (hd : decode M.1 pc = .ok (.putfield idx, 3)) (ho : ob_ τ a ci) (kk : G_ M d bc bs (pc + 3) ls st τ (hs_ h a k v) Z) : G_ M d bc bs pc ls (.inl v :: .inr (some a) :: st) τ h Z := gb_put hf (fun q => by cases q) rfl (gb_nz hv) (gb_fz hv) hd ho kk
/-- a final reference, in the constructor -/
def tr_ (τ : TT) (a k : Nat) (v : Option Nat) : TT := (τ.1, τ.2.1, τ.2.2.1, rs_ τ.2.2.2 a k v)
theorem gb_ent_nr {B : BT} {b a k : Nat} {v : Option Nat} (hb : b ≠ a) : gb_ent B (tr_ τ a k v) h b = gb_ent B τ h b := by
  have e0 : ∀ i, (tr_ τ a k v).2.2.2 b i = τ.2.2.2 b i := fun i => if_neg fun q => hb q.1
  unfold gb_ent gb_fl
  have e1 : gb_fv B (tr_ τ a k v) h b = gb_fv B τ h b := by
    funext i
    unfold gb_fv
    rw [e0 i]
    rfl
  rw [e1]
  simp only [e0]
  rfl
theorem G_putFR {idx ci k a x : Nat} {t : FieldType} (hf : gb_fld M.2.1 idx ci k t true) (hi : M.2.2.2.2.name = "<init>" ∧ (vwCl[ci]?).map (fun r => r.1) = some M.2.1) (hr : gb_isR t = true) (hd : decode M.1 pc = .ok (.putfield idx, 3)) (ho : ob_ τ a ci) (kk : G_ M d bc bs (pc + 3) ls st (tr_ τ a k (some x)) h Z) : G_ M d bc bs pc ls (.inr (some x) :: .inr (some a) :: st) τ h Z := by
  intro B p l e R s m args below meth c H locs cells slots cm sm la Q hC hR h1 h2 h3 h4 hL hE
  have hn : narrow t (.ref (gb_ad B x)) = .ref (gb_ad B x) := by cases t <;> first | rfl | (exact absurd hr (by decide))
  have hfit : fits t (.ref (gb_ad B x)) = true := by cases t <;> first | rfl | (exact absurd hr (by decide))
  refine gb_vput (v := .ref (gb_ad B x)) hC hR hf (fun _ => hi) hn hfit hd ho (fun H1 locs1 hP hD hS hz => ?_)
  obtain ⟨C, T, N, ty, ⟨c1, c2, c3, c4, c5, c6, c7, c8, c9⟩, f1, f2, f3, f4, f5⟩ := hf
  have hg : a ≠ 64 := gb_ng hR.1 ho.1 ho.2 (by omega)
  have e1 : (gb_w B τ h).set (gb_ps a) (gb_ad B a, .inr (ci, (gb_fl B τ h a).set k (.ref (gb_ad B x)))) = gb_w B (tr_ τ a k (some x)) h := by
    refine gb_w_set ho.1 hg rfl ?_ (fun b hb => gb_ent_nr hb)
    rw [gb_ent_o (show (tr_ τ a k (some x)).2.1 a = ci from ho.2) c9]
    congr 2
    apply List.ext_getElem?
    intro j
    rw [List.getElem?_set]
    by_cases hj : k = j
    · subst hj
      have hl : k < gb_nsl (τ.2.1 a) := by rw [ho.2, c5]; exact f1
      have hR' : gb_isR (gb_ty (τ.2.1 a) k) = true := by rw [ho.2, c6, f3]; exact hr
      simp [gb_fl, hl, gb_fv, tr_, rs_, hR', va_rf]
    · rw [if_neg hj]
      by_cases hl : j < gb_nsl (τ.2.1 a)
      · simp [gb_fl, hl, gb_fv, tr_, rs_, Ne.symm hj]
      · simp [gb_fl, hl, tr_]
  rw [e1] at hP hD
  exact kk B p l e R s m args below meth c H1 locs1 cells slots cm sm la Q hC ⟨⟨hP, hD, hz.trans hR.1.2.2.1, hR.1.2.2.2⟩, hS⟩ h1 h2 h3 h4 hL hE
theorem gb_tys_at {B : BT} : (gb_tys B)[0]? = some (B.2.2.1 13, .int) := rfl
theorem G_iald {a n : Nat} {i v : Int} (hd : decode M.1 pc = .ok (.iaload, 1)) (ho : ar_ τ a 13 n) (hi : 0 ≤ i ∧ i < n) (hv : h a i.toNat = v) (kk : G_ M d bc bs (pc + 1) ls (.inl v :: st) τ h Z) : G_ M d bc bs pc ls (.inl i :: .inr (some a) :: st) τ h Z := by
  intro B p l e R s m args below meth c H locs cells slots cm sm la Q hC hR h1 h2 h3 h4 hL hE
  subst hv
  have hg : a ≠ 64 := gb_ng hR.1 ho.1 ho.2.1 (by omega)
  have he : (gb_w B τ h)[gb_ps a]? = some (gb_ad B a, .inl (B.2.2.1 13, n, .inl (fun i => Int32.ofInt (h a i)))) := by rw [gb_w_get ho.1 hg, gb_ent_i ho.2.1 (by decide) (by decide), ho.2.2.1]
  refine va_iald hC.1 hC.2.1 hC.2.2.2.2.2.2.2.1.1 hR.1.1 (gb_ps a) 0 he rfl (gb_in hi.1 hi.2 ho.2.2.2) hd ?_
  rw [gb_nat hi.1 hi.2 ho.2.2.2]
  exact kk B p l e R s m args below meth c H locs cells slots cm sm la Q hC hR h1 h2 h3 h4 hL hE
theorem gb_arrw {B : BT} {a n ci i : Nat} {v : Int} (ho : ar_ τ a ci n) (hg : a ≠ 64) (hc : ¬ ci < 13) (hd : ci < 15) : (gb_w B τ h).set (gb_ps a) (gb_ad B a, .inl (B.2.2.1 ci, n, .inl (upd (fun i => Int32.ofInt (h a i)) i (Int32.ofInt v)))) = gb_w B τ (hs_ h a i v) := by
  refine gb_w_set ho.1 hg rfl ?_ (fun b hb => gb_ent_ne fun i => hs_na hb)
  rw [gb_ent_i ho.2.1 hc hd, ho.2.2.1]
  congr 4
  funext j
  by_cases hj : j = i
  · subst hj
    rw [hs_eq, upd, if_pos rfl]
  · rw [hs_ni hj, upd, if_neg hj]
theorem G_iast {a n : Nat} {i v : Int} (hd : decode M.1 pc = .ok (.iastore, 1)) (ho : ar_ τ a 13 n) (hi : 0 ≤ i ∧ i < n) (kk : G_ M d bc bs (pc + 1) ls st τ (hs_ h a i.toNat v) Z) : G_ M d bc bs pc ls (.inl v :: .inl i :: .inr (some a) :: st) τ h Z := by
  intro B p l e R s m args below meth c H locs cells slots cm sm la Q hC hR h1 h2 h3 h4 hL hE
  have hg : a ≠ 64 := gb_ng hR.1 ho.1 ho.2.1 (by omega)
  have he : (gb_w B τ h)[gb_ps a]? = some (gb_ad B a, .inl (B.2.2.1 13, n, .inl (fun i => Int32.ofInt (h a i)))) := by rw [gb_w_get ho.1 hg, gb_ent_i ho.2.1 (by decide) (by decide), ho.2.2.1]
  obtain ⟨⟨hP, hD, hz0, hz1⟩, hS⟩ := hR
  have hK := hC.2.2.2.2.2.2.2.1.1
  have hin : vp_in (Int32.ofInt i) n := gb_in hi.1 hi.2 ho.2.2.2
  refine W.iast hC.1 hC.2.1 (hP (gb_ps a) _ he) ((hK.2 0 _ (gb_tys_at (B := B))).1 n (fun j => .int (Int32.ofInt (h a j)))) (fun q => by cases q) (by show ¬ (_ < 0 ∨ (arrV _ _ _).slots.size ≤ _); rw [arrV_size]; exact hin) rfl rfl hd fun H1 e9 z oq => ?_
  have hP1 : va_P B.2.1 vwCl ((gb_w B τ h).set (gb_ps a) (gb_ad B a, .inl (B.2.2.1 13, n, .inl (upd (fun i => Int32.ofInt (h a i)) i.toNat (Int32.ofInt v))))) H1 := by
    refine hP.set hD he ?_ oq
    show H1[gb_ad B a]? = some (vp_cell _ _)
    rw [e9, vp_cell_i, vp_cell_i, arrV_store, gb_nat hi.1 hi.2 ho.2.2.2]
    congr 2
    funext q
    by_cases hq : q = i.toNat
    · subst hq
      simp [updV, upd]
    · simp [updV, upd, hq]
  have hD1 := hD.set (e := .inl (B.2.2.1 13, n, .inl (upd (fun i => Int32.ofInt (h a i)) i.toNat (Int32.ofInt v)))) he
  rw [gb_arrw ho hg (by decide) (by decide)] at hP1 hD1
  exact kk B p l e R s m args below meth c H1 _ cells slots cm sm la Q hC ⟨⟨hP1, hD1, z.trans hz0, hz1⟩, hS.put z oq (hD.2 (gb_ps a) _ he)⟩ h1 h2 h3 h4 hL hE
theorem G_aald {a n ci : Nat} {i : Int} {v : Option Nat} (hc : ci = 15 ∨ ci = 16 ∨ ci = 17) (hd : decode M.1 pc = .ok (.aaload, 1)) (ho : ar_ τ a ci n) (hi : 0 ≤ i ∧ i < n) (hv : τ.2.2.2 a i.toNat = v) (kk : G_ M d bc bs (pc + 1) ls (.inr v :: st) τ h Z) : G_ M d bc bs pc ls (.inl i :: .inr (some a) :: st) τ h Z := by
  intro B p l e R s m args below meth c H locs cells slots cm sm la Q hC hR h1 h2 h3 h4 hL hE
  subst hv
  have hg : a ≠ 64 := gb_ng hR.1 ho.1 ho.2.1 (by omega)
  have he : (gb_w B τ h)[gb_ps a]? = some (gb_ad B a, .inl (B.2.2.1 ci, n, .inr (.inr (.inr (.inr (fun i => (τ.2.2.2 a i).map (gb_ad B))))))) := by rw [gb_w_get ho.1 hg, gb_ent_r ho.2.1 (by omega), ho.2.2.1]
  have hw := kk B p l e R s m args below meth c H locs cells slots cm sm la Q hC hR h1 h2 h3 h4 hL hE
  rcases hc with rfl | rfl | rfl
  · refine va_aldq hC.1 hC.2.1 hC.2.2.2.2.2.2.2.1.1 hR.1.1 (gb_ps a) 1 he rfl (gb_in hi.1 hi.2 ho.2.2.2) hd ?_
    rw [gb_nat hi.1 hi.2 ho.2.2.2]
    exact hw
  · refine va_aldq hC.1 hC.2.1 hC.2.2.2.2.2.2.2.1.1 hR.1.1 (gb_ps a) 2 he rfl (gb_in hi.1 hi.2 ho.2.2.2) hd ?_
    rw [gb_nat hi.1 hi.2 ho.2.2.2]
    exact hw
  · refine va_aldq hC.1 hC.2.1 hC.2.2.2.2.2.2.2.1.1 hR.1.1 (gb_ps a) 3 he rfl (gb_in hi.1 hi.2 ho.2.2.2) hd ?_
    rw [gb_nat hi.1 hi.2 ho.2.2.2]
    exact hw
theorem G_aast {a n ci co x : Nat} {i : Int} {r : vw_C} (hc : (ci = 15 ∧ r.1 = "MaypoleGreen$Person") ∨ (ci = 16 ∧ r.1 = "MaypoleGreen$Steps") ∨ (ci = 17 ∧ r.1 = "MaypoleGreen$Tape")) (hr : vwCl[co]? = some r) (hd : decode M.1 pc = .ok (.aastore, 1)) (ho : ar_ τ a ci n) (hx : ob_ τ x co) (hi : 0 ≤ i ∧ i < n) (kk : G_ M d bc bs (pc + 1) ls st (tr_ τ a i.toNat (some x)) h Z) : G_ M d bc bs pc ls (.inr (some x) :: .inl i :: .inr (some a) :: st) τ h Z := by
  intro B p l e R s m args below meth c H locs cells slots cm sm la Q hC hR h1 h2 h3 h4 hL hE
  have hd15 : ¬ ci < 15 := by omega
  have hg : a ≠ 64 := gb_ng hR.1 ho.1 ho.2.1 (by omega)
  have he : (gb_w B τ h)[gb_ps a]? = some (gb_ad B a, .inl (B.2.2.1 ci, n, .inr (.inr (.inr (.inr (fun i => (τ.2.2.2 a i).map (gb_ad B))))))) := by rw [gb_w_get ho.1 hg, gb_ent_r ho.2.1 hd15, ho.2.2.1]
  have hv : (gb_w B τ h)[gb_ps x]? = some (gb_ad B x, .inr (co, gb_fl B τ h x)) := by rw [gb_w_get hx.1 (gb_ng hR.1 hx.1 hx.2 (by have := gb_vcl hr; omega)), gb_ent_o hx.2 (gb_vcl hr)]
  obtain ⟨⟨hP, hD, hz0, hz1⟩, hS⟩ := hR
  have hK := hC.2.2.2.2.2.2.2.1.1
  have hin : vp_in (Int32.ofInt i) n := gb_in hi.1 hi.2 ho.2.2.2
  have ht : ∃ t0 : Nat, (gb_tys B)[t0]? = some (B.2.2.1 ci, .object r.1) := by
    rcases hc with ⟨rfl, e2⟩ | ⟨rfl, e2⟩ | ⟨rfl, e2⟩
    · exact ⟨1, by rw [e2]; rfl⟩
    · exact ⟨2, by rw [e2]; rfl⟩
    · exact ⟨3, by rw [e2]; rfl⟩
  obtain ⟨t0, ht⟩ := ht
  have hlt : (Int32.ofInt i).toNatClampNeg < n := Nat.not_le.mp fun q => hin (Or.inr q)
  have h0 : ¬ Int32.ofInt i < 0 := fun q => hin (Or.inl q)
  obtain ⟨r', hr', cellV, g1, g2, g3, -⟩ := hP (gb_ps x) _ hv
  have hcls := (hK.1 co r hr).2
  obtain ⟨kA, comp, k1, k2, k3, -⟩ := (hK.2 t0 _ ht).2
  have hcomp : comp = B.2.1.1 co := Option.some.inj (k3.symm.trans hcls.1)
  subst hcomp
  obtain ⟨kC, hkC, -⟩ := hcls.2
  refine W.aast hC.1 hC.2.1 (hP (gb_ps a) _ he) (fun q h => by cases h) (fun h => by cases h) k1 k2 rfl hkC ⟨h0, by show _ < (arrV _ _ _).slots.size; rw [arrV_size]; exact hlt⟩ g1 (fun q h => by rw [g3] at h; cases h) (by rw [g2]; exact hkC) (by rw [g2]; exact va_assign hcls) rfl rfl hd fun H1 e9 z oq => ?_
  have e1 : (gb_w B τ h).set (gb_ps a) (gb_ad B a, .inl (B.2.2.1 ci, n, .inr (.inr (.inr (.inr (va_up (fun i => (τ.2.2.2 a i).map (gb_ad B)) i.toNat (some (gb_ad B x)))))))) = gb_w B (tr_ τ a i.toNat (some x)) h := by
    refine gb_w_set ho.1 hg rfl ?_ (fun b hb => gb_ent_nr hb)
    rw [gb_ent_r (show (tr_ τ a i.toNat (some x)).2.1 a = ci from ho.2.1) hd15]
    show _ = Sum.inl (_, n, _)
    rw [show (tr_ τ a i.toNat (some x)).2.2.1 a = n from ho.2.2.1]
    congr 7
    funext j
    by_cases hj : j = i.toNat
    · subst hj
      simp [tr_, rs_, va_up]
    · simp [tr_, rs_, va_up, hj]
  have hP1 : va_P B.2.1 vwCl ((gb_w B τ h).set (gb_ps a) (gb_ad B a, .inl (B.2.2.1 ci, n, .inr (.inr (.inr (.inr (va_up (fun i => (τ.2.2.2 a i).map (gb_ad B)) i.toNat (some (gb_ad B x))))))))) H1 := by
    refine hP.set hD he ?_ oq
    show H1[gb_ad B a]? = some (vp_cell _ _)
    rw [e9, vp_cell_q, vp_cell_q, arrV_store, gb_nat hi.1 hi.2 ho.2.2.2]
    congr 2
    funext q
    by_cases hq : q = i.toNat
    · subst hq
      simp [updV, va_up, va_rf]
    · simp [updV, va_up, hq]
  have hD1 := hD.set (e := .inl (B.2.2.1 ci, n, .inr (.inr (.inr (.inr (va_up (fun i => (τ.2.2.2 a i).map (gb_ad B)) i.toNat (some (gb_ad B x)))))))) he
  rw [e1] at hP1 hD1
  exact kk B p l e R s m args below meth c H1 _ cells slots cm sm la Q hC ⟨⟨hP1, hD1, z.trans hz0, hz1⟩, hS.put z oq (hD.2 (gb_ps a) _ he)⟩ h1 h2 h3 h4 hL hE
theorem G_alen {a n ci : Nat} (hc : ci = 13 ∨ ci = 13) (hd : decode M.1 pc = .ok (.arraylength, 1)) (ho : ar_ τ a ci n) (kk : G_ M d bc bs (pc + 1) ls (.inl n :: st) τ h Z) : G_ M d bc bs pc ls (.inr (some a) :: st) τ h Z := by
  intro B p l e R s m args below meth c H locs cells slots cm sm la Q hC hR h1 h2 h3 h4 hL hE
  have hw := kk B p l e R s m args below meth c H locs cells slots cm sm la Q hC hR h1 h2 h3 h4 hL hE
  have hg : a ≠ 64 := gb_ng hR.1 ho.1 ho.2.1 (by omega)
  have he : (gb_w B τ h)[gb_ps a]? = some (gb_ad B a, .inl (B.2.2.1 ci, n, .inl (fun i => Int32.ofInt (h a i)))) := by rw [gb_w_get ho.1 hg, gb_ent_i ho.2.1 (by omega) (by omega), ho.2.2.1]
  rcases hc with rfl | rfl
  · exact va_alen hC.1 hC.2.1 hC.2.2.2.2.2.2.2.1.1 hR.1.1 (gb_ps a) 0 he rfl rfl hd hw
  · exact va_alen hC.1 hC.2.1 hC.2.2.2.2.2.2.2.1.1 hR.1.1 (gb_ps a) 0 he rfl rfl hd hw
/-- the statics: BODIES is cell 1000000, KIND_ABOVE cell 1000001 -/
theorem G_getsB {idx : Nat} (hf : (M.2.1, idx, "MaypoleGreen", "BODIES", "[I", "MaypoleGreen") ∈ gb_NF) (hd : decode M.1 pc = .ok (.getstatic idx, 3)) (kk : G_ M d bc bs (pc + 3) ls (.inr (some 1000000) :: st) τ h Z) : G_ M d bc bs pc ls st τ h Z := by
  intro B p l e R s m args below meth c H locs cells slots cm sm la Q hC hR h1 h2 h3 h4 hL hE
  exact va_getsN hC.1 hC.2.1 hC.2.2.2.2.2.2.2.1.2.2.2.2.1.1 hR.2 hC.2.2.2.1 (va_Nw.use rfl (hC.2.2.2.2.2.2.2.1.2.2.1 _ hf)) (fun x hx => hx) hd (kk B p l e R s m args below meth c H locs cells slots cm sm la Q hC hR h1 h2 h3 h4 hL hE)
theorem G_getsK {idx : Nat} (hf : (M.2.1, idx, "MaypoleGreen", "KIND_ABOVE", "[I", "MaypoleGreen") ∈ gb_NF) (hd : decode M.1 pc = .ok (.getstatic idx, 3)) (kk : G_ M d bc bs (pc + 3) ls (.inr (some 1000001) :: st) τ h Z) : G_ M d bc bs pc ls st τ h Z := by
  intro B p l e R s m args below meth c H locs cells slots cm sm la Q hC hR h1 h2 h3 h4 hL hE
  exact va_getsN hC.1 hC.2.1 hC.2.2.2.2.2.2.2.1.2.2.2.2.2.1 hR.2 hC.2.2.2.1 (va_Nw.use rfl (hC.2.2.2.2.2.2.2.1.2.2.1 _ hf)) (fun x hx => hx) hd (kk B p l e R s m args below meth c H locs cells slots cm sm la Q hC hR h1 h2 h3 h4 hL hE)
theorem G_ialdB {i : Int} (hd : decode M.1 pc = .ok (.iaload, 1)) (hi : 0 ≤ i ∧ i < 15) (kk : G_ M d bc bs (pc + 1) ls (.inl (gb_BO.getD i.toNat 0) :: st) τ h Z) : G_ M d bc bs pc ls (.inl i :: .inr (some 1000000) :: st) τ h Z := by
  intro B p l e R s m args below meth c H locs cells slots cm sm la Q hC hR h1 h2 h3 h4 hL hE
  obtain ⟨-, hX, hlt⟩ := hC.2.2.2.2.2.2.2.1.2.2.2.2.1
  refine va_sld hC.1 hC.2.1 hX (Nat.lt_of_lt_of_le hlt hC.2.2.2.2.2.2.2.2.1) (Nat.not_le.mpr hlt) hR.2 (gb_in hi.1 hi.2 (by decide)) hd ?_
  rw [gb_nat hi.1 hi.2 (by decide)]
  exact kk B p l e R s m args below meth c H locs cells slots cm sm la Q hC hR h1 h2 h3 h4 hL hE
theorem G_ialdK {i : Int} (hd : decode M.1 pc = .ok (.iaload, 1)) (hi : 0 ≤ i ∧ i < 5) (kk : G_ M d bc bs (pc + 1) ls (.inl (gb_KA.getD i.toNat 0) :: st) τ h Z) : G_ M d bc bs pc ls (.inl i :: .inr (some 1000001) :: st) τ h Z := by
  intro B p l e R s m args below meth c H locs cells slots cm sm la Q hC hR h1 h2 h3 h4 hL hE
  obtain ⟨-, hX, hlt⟩ := hC.2.2.2.2.2.2.2.1.2.2.2.2.2
  refine va_sld hC.1 hC.2.1 hX (Nat.lt_of_lt_of_le hlt hC.2.2.2.2.2.2.2.2.1) (Nat.not_le.mpr hlt) hR.2 (gb_in hi.1 hi.2 (by decide)) hd ?_
  rw [gb_nat hi.1 hi.2 (by decide)]
  exact kk B p l e R s m args below meth c H locs cells slots cm sm la Q hC hR h1 h2 h3 h4 hL hE
end GH
