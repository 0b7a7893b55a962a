/-! rows of the judgement: new cells, copies, switches -/
def tn_ (τ : TT) (k len : Nat) : TT := (τ.1 + 1, fun b => if b = τ.1 then k else τ.2.1 b, fun b => if b = τ.1 then len else τ.2.2.1 b, fun b i => if b = τ.1 then none else τ.2.2.2 b i)
def hn_ (τ : TT) (h : HT) : HT := fun b i => if b = τ.1 then 0 else h b i
def gb_dv (t : FieldType) : Bool := match t with
  | .int => true
  | .boolean => true
  | .object _ => true
  | .array _ => true
  | _ => false
def hc_ (h : HT) (a0 a1 sp dp n : Nat) : HT := fun b j => if b = a1 ∧ dp ≤ j ∧ j < dp + n then h a0 (sp + (j - dp)) else h b j
section GM
variable {M : MT} {d bc bs pc : Nat} {ls : List (Option AV)} {st : List AV} {τ : TT} {h : HT} {Z : ZT}
theorem gb_ent_tn {B : BT} {k len b : Nat} (hb : b < τ.1) : gb_ent B (tn_ τ k len) (hn_ τ h) b = gb_ent B τ h b := by
  have hne : b ≠ τ.1 := Nat.ne_of_lt hb
  have e1 : (tn_ τ k len).2.1 b = τ.2.1 b := if_neg hne
  have e2 : (tn_ τ k len).2.2.1 b = τ.2.2.1 b := if_neg hne
  have e3 : ∀ i, (tn_ τ k len).2.2.2 b i = τ.2.2.2 b i := fun i => if_neg hne
  have e4 : ∀ i, hn_ τ h b i = h b i := fun i => if_neg hne
  unfold gb_ent gb_fl
  have e5 : gb_fv B (tn_ τ k len) (hn_ τ h) b = gb_fv B τ h b := by
    funext i
    unfold gb_fv
    rw [e1, e3 i, e4 i]
  rw [e1, e2, e5]
  simp only [e3, e4]
theorem gb_mk {B : BT} {s : State} {H H1 : Heap} {locs : List Loc} {k len : Nat} {E : va_E} (hR : gb_RP B τ h s H locs) (ht : τ.1 < 999999 ∧ τ.1 ≠ 64) (hE : gb_ent B (tn_ τ k len) (hn_ τ h) τ.1 = E) (hat : va_at B.2.1 vwCl (gb_ad B τ.1, E) H1) (z1 : H1.size = H.size + 1) (o1 : ∀ q, q < H.size → H1[q]? = H[q]?) (hb : B.1 ≤ s.heap.size) : gb_RP B (tn_ τ k len) (hn_ τ h) s H1 locs := by
  obtain ⟨⟨hP, hD, hz, hl⟩, hS⟩ := hR
  have ha : gb_ad B τ.1 = H.size := by rw [hz]; exact gb_ad_lt (by omega)
  have ew : gb_w B τ h ++ [(gb_ad B τ.1, E)] = gb_w B (tn_ τ k len) (hn_ τ h) := gb_w_push ht.2 rfl hE (fun b hb => gb_ent_tn hb)
  have hk : ∀ (k : Nat) (x : Nat × va_E), (gb_w B τ h)[k]? = some x → H1[x.1]? = H[x.1]? := fun k x hx => o1 x.1 ((hP k x hx).lt)
  have hP1 : va_P B.2.1 vwCl (gb_w B τ h ++ [(gb_ad B τ.1, E)]) H1 := (hP.kept hk).app (fun k x hx => by
    have hz : k < 1 := (List.getElem?_eq_some_iff.mp hx).1
    rw [show k = 0 by omega] at hx
    cases hx
    exact hat)
  have hD1 : va_D (gb_A B) (gb_w B τ h ++ [(gb_ad B τ.1, E)]) := hD.push hP ha (by show B.1 ≤ _; rw [ha]; exact Nat.le_trans hb hS.1)
  rw [ew] at hP1 hD1
  refine ⟨⟨hP1, hD1, by rw [z1, hz]; show _ = B.1 + gb_ps (τ.1 + 1); rw [gb_ps_s ht.2]; rfl, ?_, fun q => ?_⟩, ⟨Nat.le_trans hS.1 (by omega), fun x g1 g2 => (o1 x (Nat.lt_of_lt_of_le g1 hS.1)).trans (hS.2.1 x g1 g2), hS.2.2⟩⟩
  · show τ.1 + 1 < 1000000
    omega
  · have q1 : 64 < τ.1 + 1 := q
    have q2 := ht.2
    exact (if_neg (by omega)).trans (hl.2 (by omega))
/-- the number that is no cell -/
theorem gb_ent_no {B : BT} {b : Nat} (hb : b < τ.1) : gb_ent B (tn_ τ 14 0) h b = gb_ent B τ h b := by
  have hne : b ≠ τ.1 := Nat.ne_of_lt hb
  have e1 : (tn_ τ 14 0).2.1 b = τ.2.1 b := if_neg hne
  have e2 : (tn_ τ 14 0).2.2.1 b = τ.2.2.1 b := if_neg hne
  have e3 : ∀ i, (tn_ τ 14 0).2.2.2 b i = τ.2.2.2 b i := fun i => if_neg hne
  unfold gb_ent gb_fl
  have e5 : gb_fv B (tn_ τ 14 0) h b = gb_fv B τ h b := by
    funext i
    unfold gb_fv
    rw [e1, e3 i]
  rw [e1, e2, e5]
  simp only [e3]
theorem G_no (e : τ.1 = 64) (kk : G_ M d bc bs pc ls st (tn_ τ 14 0) h Z) : G_ M d bc bs pc ls st τ h Z := by
  intro B p l e' R s m args below meth c H locs cells slots cm sm la Q hC hR h1 h2 h3 h4 hL hE
  obtain ⟨⟨hP, hD, hz, hl⟩, hS⟩ := hR
  have ew : gb_w B τ h = gb_w B (tn_ τ 14 0) h := gb_w_no e (by show τ.1 + 1 = 65; omega) (fun b hb => gb_ent_no hb)
  rw [ew] at hP hD
  refine kk B p l e' R s m args below meth c H locs cells slots cm sm la Q hC ⟨⟨hP, hD, ?_, ?_, fun _ => if_pos e.symm⟩, hS⟩ h1 h2 h3 h4 hL hE
  · rw [hz, e]; show B.1 + gb_ps 64 = B.1 + gb_ps (τ.1 + 1); rw [e]; rfl
  · show τ.1 + 1 < 1000000; omega
theorem G_new {idx ci N : Nat} {C : String} {T : u_T} {ty : Nat → FieldType} (hc : gb_cls ci C T N ty) (hl : Cond.classLink M.2.1 idx C ∈ gb_LW) (hdv : ∀ j, j < N → gb_dv (ty j) = true) (ht : τ.1 < 999999 ∧ τ.1 ≠ 64) (hd : decode M.1 pc = .ok (.new idx, 3)) (kk : G_ M d bc bs (pc + 3) ls (.inr (some τ.1) :: st) (tn_ τ ci 0) (hn_ τ h) Z) : G_ M d (1 + bc) (N + bs) pc ls st τ h Z := by
  intro B p l e R s m args below meth c H locs cells slots cm sm la Q hC hR h1 h2 h3 h4 hL hE
  obtain ⟨c1, c2, c3, c4, c5, c6, c7, c8, c9⟩ := hc
  have hts := hC.2.2.2.2.1
  have hK := hC.2.2.2.2.2.2.2.1.1
  have hKn := hK.1 ci _ c1
  have ha : gb_ad B τ.1 = H.size := by rw [hR.1.2.2.1]; exact gb_ad_lt (by omega)
  refine W.newcK hC.1 hC.2.1 hC.2.2.2.1 (hts _ hl) (hts _ c7) (hts _ c8) rfl hd (by omega) (by omega) hKn.2.1 rfl fun H1 kC hkC e1 z1 o1 => ?_
  have ek : (tn_ τ ci 0).2.1 τ.1 = ci := if_pos rfl
  have hfs : ∀ j, j < N → defaultValue (ty j) = vp_V (gb_fl B (tn_ τ ci 0) (hn_ τ h) τ.1) j := by
    intro j hj
    unfold vp_V
    rw [List.getD_eq_getElem?_getD, gb_fl_get (by rw [ek, c5]; exact hj)]
    have e2 : (tn_ τ ci 0).2.2.2 τ.1 j = none := if_pos rfl
    have e3 : hn_ τ h τ.1 j = 0 := if_pos rfl
    unfold gb_fv
    rw [ek, c6, e2, e3]
    have := hdv j hj
    generalize ty j = t at this ⊢
    cases t <;> first | rfl | (exact absurd this (by decide))
  have hat : va_at B.2.1 vwCl (gb_ad B τ.1, .inr (ci, gb_fl B (tn_ τ ci 0) (hn_ τ h) τ.1)) H1 := by
    rw [ha]
    exact ⟨_, c1, (u_born ty hts c2 hKn hkC e1 c3).to hfs⟩
  have hR1 := gb_mk hR ht (gb_ent_o ek c9) hat z1 o1 hC.2.2.2.2.2.2.2.2.1
  have := kk B p l e R s m args below meth c H1 locs (cells + 1) (slots + N) cm sm la Q hC hR1 (by omega) (by omega) h3 h4 hL hE
  rw [show (Value.ref H.size) = gb_tv B (.inr (some τ.1)) from by show Value.ref _ = Value.ref _; rw [ha]]
  exact this
theorem gb_newa {aty : ArrayType} {t : FieldType} {n : Int} {ci t0 : Nat} (hty : newarray.typeOf aty = t) (hw : Cond.arrayClass t ∈ gb_LW) (htt : t = .int ∧ ci = 13 ∧ t0 = 0) (hn : 0 ≤ n ∧ n < 100000) (ht : τ.1 < 999999 ∧ τ.1 ≠ 64) (hd : decode M.1 pc = .ok (.newarray aty, 2)) (kk : G_ M d bc bs (pc + 2) ls (.inr (some τ.1) :: st) (tn_ τ ci n.toNat) (hn_ τ h) Z) : G_ M d (1 + bc) (n.toNat + bs) pc ls (.inl n :: st) τ h Z := by
  intro B p l e R s m args below meth c H locs cells slots cm sm la Q hC hR h1 h2 h3 h4 hL hE
  have hts := hC.2.2.2.2.1
  have hK := hC.2.2.2.2.2.2.2.1.1
  have ha : gb_ad B τ.1 = H.size := by rw [hR.1.2.2.1]; exact gb_ad_lt (by omega)
  have hN : (Int32.ofInt n).toNatClampNeg = n.toNat := gb_nat (n := 100000) hn.1 (by omega) (by omega)
  have hpos : ¬ Int32.ofInt n < 0 := by rw [gb_0, gb_lt (by omega) gb_r0]; omega
  subst hty
  refine va_newaK hC.1 hC.2.1 (hts _ hw) rfl hd rfl hpos hN (by
    obtain ⟨e1, -, -⟩ := htt; rw [e1]; simp only [componentBytes]; omega) (by omega) (by omega) rfl fun H1 cA e1 z1 o1 hAr hNm => ?_
  have hcA : cA = B.2.2.1 ci := by
    obtain ⟨e2, rfl, -⟩ := htt
    have := (hK.2 0 _ rfl).2
    rw [e2] at hNm
    exact Option.some.inj (hNm.symm.trans this)
  subst hcA
  have hE1 : gb_ent B (tn_ τ ci n.toNat) (hn_ τ h) τ.1 = .inl (B.2.2.1 ci, n.toNat, .inl (fun _ => 0)) := by
    rw [gb_ent_i (ci := ci) (if_pos rfl) (by omega) (by omega)]
    have e5 : (tn_ τ ci n.toNat).2.2.1 τ.1 = n.toNat := if_pos rfl
    have e6 : (fun i => Int32.ofInt (hn_ τ h τ.1 i)) = (fun _ => (0 : Int32)) := by
      funext i
      rw [show hn_ τ h τ.1 i = 0 from if_pos rfl]
      exact gb_0.symm
    rw [e5, e6]
  have hat : va_at B.2.1 vwCl (gb_ad B τ.1, .inl (B.2.2.1 ci, n.toNat, .inl (fun _ => 0))) H1 := by
    rw [ha]
    show H1[H.size]? = some (vp_cell _ _)
    rw [vp_cell_i, e1]
    rw [htt.1]; rfl
  have hR1 := gb_mk hR ht hE1 hat z1 o1 hC.2.2.2.2.2.2.2.2.1
  have := kk B p l e R s m args below meth c H1 locs (cells + 1) (slots + n.toNat) cm sm la Q hC hR1 (by omega) (by omega) h3 h4 hL hE
  rw [show (Value.ref H.size) = gb_tv B (.inr (some τ.1)) from by show Value.ref _ = Value.ref _; rw [ha]]
  exact this
theorem G_newaI {aty : ArrayType} {n : Int} (hty : newarray.typeOf aty = .int) (hw : Cond.arrayClass .int ∈ gb_LW) (hn : 0 ≤ n ∧ n < 100000) (ht : τ.1 < 999999 ∧ τ.1 ≠ 64) (hd : decode M.1 pc = .ok (.newarray aty, 2)) (kk : G_ M d bc bs (pc + 2) ls (.inr (some τ.1) :: st) (tn_ τ 13 n.toNat) (hn_ τ h) Z) : G_ M d (1 + bc) (n.toNat + bs) pc ls (.inl n :: st) τ h Z := gb_newa (t0 := 0) hty hw ⟨rfl, rfl, rfl⟩ hn ht hd kk
theorem G_anew {C : String} {n : Int} {idx ci : Nat} (hl : Cond.classLink M.2.1 idx C ∈ gb_LW) (hC2 : C ∈ gb_AO) (hci : (ci = 15 ∧ C = "MaypoleGreen$Person") ∨ (ci = 16 ∧ C = "MaypoleGreen$Steps") ∨ (ci = 17 ∧ C = "MaypoleGreen$Tape")) (hn : 0 ≤ n ∧ n < 100000) (ht : τ.1 < 999999 ∧ τ.1 ≠ 64) (hd : decode M.1 pc = .ok (.anewarray idx, 3)) (kk : G_ M d bc bs (pc + 3) ls (.inr (some τ.1) :: st) (tn_ τ ci n.toNat) (hn_ τ h) Z) : G_ M d (1 + bc) (n.toNat + bs) pc ls (.inl n :: st) τ h Z := by
  intro B p l e R s m args below meth c H locs cells slots cm sm la Q hC hR h1 h2 h3 h4 hL hE
  have hts := hC.2.2.2.2.1
  have hK := hC.2.2.2.2.2.2.2.1.1
  have ha : gb_ad B τ.1 = H.size := by rw [hR.1.2.2.1]; exact gb_ad_lt (by omega)
  have hN : (Int32.ofInt n).toNatClampNeg = n.toNat := gb_nat (n := 100000) hn.1 (by omega) (by omega)
  have hpos : ¬ Int32.ofInt n < 0 := by rw [gb_0, gb_lt (by omega) gb_r0]; omega
  refine W.anew hC.1 hC.2.1 hC.2.2.2.1 (hts _ hl) (va_AO.use (hC.2.2.2.2.2.2.2.1.2.2.2.1 _ hC2)) rfl hd rfl hpos (by rw [hN]; omega) (by omega) (by rw [hN]; omega) fun cA kA comp f1 f2 f3 f4 => ?_
  rw [hN]
  generalize hH1 : H.push ({ cls := cA, slots := Array.replicate n.toNat .null, vm := .none } : Cell) = H1
  have z1 : H1.size = H.size + 1 := by rw [← hH1, Array.size_push]
  have e1 : H1[H.size]? = some (arrV cA n.toNat (fun _ => .null)) := by rw [← hH1, Array.getElem?_push_size, ← arrV_new]
  have o1 : ∀ q : Nat, q < H.size → H1[q]? = H[q]? := fun q hq => by rw [← hH1, Array.getElem?_push, if_neg (Nat.ne_of_lt hq)]
  have hcA : cA = B.2.2.1 ci := by
    rcases hci with ⟨rfl, rfl⟩ | ⟨rfl, rfl⟩ | ⟨rfl, rfl⟩
    · obtain ⟨_, _, _, _, _, q⟩ := (hK.2 1 _ rfl).2
      exact Option.some.inj (f1.symm.trans q)
    · obtain ⟨_, _, _, _, _, q⟩ := (hK.2 2 _ rfl).2
      exact Option.some.inj (f1.symm.trans q)
    · obtain ⟨_, _, _, _, _, q⟩ := (hK.2 3 _ rfl).2
      exact Option.some.inj (f1.symm.trans q)
  subst hcA
  have hE1 : gb_ent B (tn_ τ ci n.toNat) (hn_ τ h) τ.1 = .inl (B.2.2.1 ci, n.toNat, .inr (.inr (.inr (.inr (fun _ => none))))) := by
    rw [gb_ent_r (ci := ci) (if_pos rfl) (by omega)]
    have e5 : (tn_ τ ci n.toNat).2.2.1 τ.1 = n.toNat := if_pos rfl
    have e6 : (fun i => ((tn_ τ ci n.toNat).2.2.2 τ.1 i).map (gb_ad B)) = (fun _ => none) := by
      funext i
      rw [show (tn_ τ ci n.toNat).2.2.2 τ.1 i = none from if_pos rfl]
      rfl
    rw [e5, e6]
  have hat : va_at B.2.1 vwCl (gb_ad B τ.1, .inl (B.2.2.1 ci, n.toNat, .inr (.inr (.inr (.inr (fun _ => none)))))) H1 := by
    rw [ha]
    show H1[H.size]? = some (vp_cell _ _)
    rw [vp_cell_q]
    exact e1
  have hR1 := gb_mk hR ht hE1 hat z1 o1 hC.2.2.2.2.2.2.2.2.1
  have := kk B p l e R s m args below meth c H1 locs (cells + 1) (slots + n.toNat) cm sm la Q hC hR1 (by omega) (by omega) h3 h4 hL hE
  rw [show (Value.ref H.size) = gb_tv B (.inr (some τ.1)) from by show Value.ref _ = Value.ref _; rw [ha]]
  exact this
theorem G_tswIn {v lo hi off dflt : Int} {offs : Array Int} {len tgt : Nat} (hd : decode M.1 pc = .ok (.tableswitch dflt lo hi offs, len)) (hr : -2147483648 ≤ v ∧ v ≤ 2147483647) (hv : lo ≤ v ∧ v ≤ hi) (ho : offs[(v - lo).toNat]? = some off) (ht : (pc : Int) + off = (tgt : Int)) (k : G_ M d bc bs tgt ls st τ h Z) : G_ M d bc bs pc ls (.inl v :: st) τ h Z :=
  G_step k fun B p l e R s m args below meth c H locs cells slots la Q hx hb ho' ht' hL hw => lv_tableIn hx hb hd (by rw [gb_ofInt hr]; omega) (by rw [gb_ofInt hr]; omega) (by rw [gb_ofInt hr]; exact ho) ht hw
theorem G_tswOut {v lo hi dflt : Int} {offs : Array Int} {len tgt : Nat} (hd : decode M.1 pc = .ok (.tableswitch dflt lo hi offs, len)) (hr : -2147483648 ≤ v ∧ v ≤ 2147483647) (hv : v < lo ∨ hi < v) (ht : (pc : Int) + dflt = (tgt : Int)) (k : G_ M d bc bs tgt ls st τ h Z) : G_ M d bc bs pc ls (.inl v :: st) τ h Z :=
  G_step k fun B p l e R s m args below meth c H locs cells slots la Q hx hb ho' ht' hL hw => lv_tableOut hx hb hd (by rw [gb_ofInt hr]; exact hv) ht hw
theorem G_lsw {v off dflt : Int} {ps : Array (Int × Int)} {len tgt : Nat} (hd : decode M.1 pc = .ok (.lookupswitch dflt ps, len)) (hr : -2147483648 ≤ v ∧ v ≤ 2147483647) (hp : (ps.toList.zip (ps.toList.drop 1)).all (fun (a, next) => a.1 < next.1) = true) (ho : Op.lookupswitch.offset ps.toList dflt v = off) (ht : (pc : Int) + off = (tgt : Int)) (k : G_ M d bc bs tgt ls st τ h Z) : G_ M d bc bs pc ls (.inl v :: st) τ h Z :=
  G_step k fun B p l e R s m args below meth c H locs cells slots la Q hx hb ho' ht' hL hw => lv_lookup hx hb hd hp (by rw [gb_ofInt hr]; exact ho) ht hw
end GM
