/-! where the law begins -/
theorem tl_ {i : Nat} {w : Cond} (h : tables_1[i]? = some w) : w ∈ lw_tbl := List.mem_append_right _ (List.mem_of_getElem? h)
theorem sa_eq {args : Array Value} {s : State} {t : Term} {z : Int32} (h : (Cond.eq t (.int z)).before args s = true) : t.eval args s none [] s = some (.int z) := by
  cases hv : t.eval args s none [] s with
  | none => simp [Cond.before, Cond.holds, Cond.value, hv] at h
  | some w =>
    have hz : (Term.int z).eval args s none [] s = some (.int z) := rfl
    simp only [Cond.before, Cond.holds, Cond.value, hv, hz] at h
    cases w <;> simp_all
theorem sa_nat {j : Nat} (h : j < 2147483648) : (Int32.ofNat j).toNatClampNeg = j := by
  show (Int32.ofNat j).toInt.toNat = j
  rw [Int32.toInt_ofNat_small h]; rfl
theorem sa_X {args : Array Value} {s : State} {t : Term} {L : Nat} {xs : List Int} (hL : L < 2147483648) (h1 : (Cond.arrayOf t .int).before args s = true) (h2 : (Cond.eq (.length t) (.int (Int32.ofNat L))).before args s = true) (h3 : ∀ j : Nat, j < L → (Cond.eq (.elem t (.int (Int32.ofNat j))) (.int (Int32.ofInt (xs.getD j 0)))).before args s = true) : ∃ a : Nat, t.eval args s none [] s = some (.ref a) ∧ va_X a L (fun j => Int32.ofInt (xs.getD j 0)) s s.heap ∧ a < s.heap.size := by
  have hv := sa_eq h2
  obtain ⟨a, cell, ht, harr, ev⟩ := Term.length_spec hv
  have hsz : cell.slots.size < 2147483648 := by
    simp only [Term.eval, ht, harr, Option.bind_eq_bind, Option.bind_some] at hv
    by_cases hlt : cell.slots.size < 2147483648
    · exact hlt
    · simp [hlt] at hv
  obtain ⟨hcell, hun, -, -⟩ := State.arrayAt?_spec harr
  have hof := (Cond.arrayOf_spec h1 ht hcell).1
  have eL : cell.slots.size = L := by
    have e1 : Int32.ofNat L = cell.slots.size.toInt32 := Value.int.inj ev
    have e2 := congrArg Int32.toNatClampNeg e1
    rw [sa_nat hL, show cell.slots.size.toInt32 = Int32.ofNat cell.slots.size from rfl, sa_nat hsz] at e2
    exact e2.symm
  refine ⟨a, ht, ⟨cell, hcell, hof, hun, eL, fun j hj => ?_⟩, (Array.getElem?_eq_some_iff.mp hcell).1⟩
  obtain ⟨a2, j2, cell2, g1, g2, g3, -, g5⟩ := Term.elem_spec (sa_eq (h3 j hj))
  rw [ht] at g1
  cases g1
  rw [harr] at g3
  cases g3
  cases g2
  rw [sa_nat (by omega)] at g5
  exact g5
theorem kn_all {s : State} {args : Array Value} (h : ∀ w ∈ gb_LW, w.before args s = true) : ∃ D : va_G, ∀ (c : Nat) (q : vw_C), vwCl[c]? = some q → u_Kn s q.1 q.2.1 q.2.2 (D.1 c) (D.2 c) := by
  obtain ⟨a0, b0, k0⟩ := u_known h cl0.2.1 (h _ cl0.2.2.2.2.2.2.1)
  obtain ⟨a1, b1, k1⟩ := u_known h cl1.2.1 (h _ cl1.2.2.2.2.2.2.1)
  obtain ⟨a2, b2, k2⟩ := u_known h cl2.2.1 (h _ cl2.2.2.2.2.2.2.1)
  obtain ⟨a3, b3, k3⟩ := u_known h cl3.2.1 (h _ cl3.2.2.2.2.2.2.1)
  obtain ⟨a4, b4, k4⟩ := u_known h cl4.2.1 (h _ cl4.2.2.2.2.2.2.1)
  obtain ⟨a5, b5, k5⟩ := u_known h cl5.2.1 (h _ cl5.2.2.2.2.2.2.1)
  obtain ⟨a6, b6, k6⟩ := u_known h cl6.2.1 (h _ cl6.2.2.2.2.2.2.1)
  obtain ⟨a7, b7, k7⟩ := u_known h cl7.2.1 (h _ cl7.2.2.2.2.2.2.1)
  obtain ⟨a8, b8, k8⟩ := u_known h cl8.2.1 (h _ cl8.2.2.2.2.2.2.1)
  obtain ⟨a9, b9, k9⟩ := u_known h cl9.2.1 (h _ cl9.2.2.2.2.2.2.1)
  obtain ⟨a10, b10, k10⟩ := u_known h cl10.2.1 (h _ cl10.2.2.2.2.2.2.1)
  obtain ⟨a11, b11, k11⟩ := u_known h cl11.2.1 (h _ cl11.2.2.2.2.2.2.1)
  obtain ⟨a12, b12, k12⟩ := u_known h cl12.2.1 (h _ cl12.2.2.2.2.2.2.1)
  have ex : ∀ c : Nat, ∃ x : ClassId × (Nat → Nat), ∀ q : vw_C, vwCl[c]? = some q → u_Kn s q.1 q.2.1 q.2.2 x.1 x.2 := by
    intro c
    match c with
    | 0 => exact ⟨(a0, b0), fun q hq => by cases hq; exact k0⟩
    | 1 => exact ⟨(a1, b1), fun q hq => by cases hq; exact k1⟩
    | 2 => exact ⟨(a2, b2), fun q hq => by cases hq; exact k2⟩
    | 3 => exact ⟨(a3, b3), fun q hq => by cases hq; exact k3⟩
    | 4 => exact ⟨(a4, b4), fun q hq => by cases hq; exact k4⟩
    | 5 => exact ⟨(a5, b5), fun q hq => by cases hq; exact k5⟩
    | 6 => exact ⟨(a6, b6), fun q hq => by cases hq; exact k6⟩
    | 7 => exact ⟨(a7, b7), fun q hq => by cases hq; exact k7⟩
    | 8 => exact ⟨(a8, b8), fun q hq => by cases hq; exact k8⟩
    | 9 => exact ⟨(a9, b9), fun q hq => by cases hq; exact k9⟩
    | 10 => exact ⟨(a10, b10), fun q hq => by cases hq; exact k10⟩
    | 11 => exact ⟨(a11, b11), fun q hq => by cases hq; exact k11⟩
    | 12 => exact ⟨(a12, b12), fun q hq => by cases hq; exact k12⟩
    | c + 13 => exact ⟨(a0, b0), fun q hq => by simp at hq⟩
  exact ⟨(fun c => (Classical.choose (ex c)).1, fun c => (Classical.choose (ex c)).2), fun c q hq => Classical.choose_spec (ex c) q hq⟩
theorem st_SF {s : State} {b : Nat} (hts : ∀ w ∈ lw_tbl, w.before #[Value.ref b] s = true) (hgv : (Jvm.Cond.and given_1 narrow_1).before #[Value.ref b] s = true) : ∃ B : BT, B.1 = s.heap.size ∧ B.2.2.2 2 = b ∧ gb_SF B s s.heap := by
  have hlw : ∀ w ∈ gb_LW, w.before #[Value.ref b] s = true := fun w hw => hts w (List.mem_filter.mp hw).1
  have hfl := flat_of_before _ hgv
  obtain ⟨D, hD⟩ := kn_all hlw
  obtain ⟨cI, kI, pI, i1, i2, i3⟩ := Cond.arrayClass_spec (hlw _ acI)
  have wPerson := hts (.arrayOver (.object "MaypoleGreen$Person")) (tl_ (i := 27) (by decide +kernel))
  obtain ⟨pPerson, cPerson, kPerson, fPerson1, fPerson2, fPerson3, fPerson4, fPerson5⟩ := Cond.arrayOver_spec wPerson
  have wSteps := hts (.arrayOver (.object "MaypoleGreen$Steps")) (tl_ (i := 166) (by decide +kernel))
  obtain ⟨pSteps, cSteps, kSteps, fSteps1, fSteps2, fSteps3, fSteps4, fSteps5⟩ := Cond.arrayOver_spec wSteps
  have wTape := hts (.arrayOver (.object "MaypoleGreen$Tape")) (tl_ (i := 284) (by decide +kernel))
  obtain ⟨pTape, cTape, kTape, fTape1, fTape2, fTape3, fTape4, fTape5⟩ := Cond.arrayOver_spec wTape
  have mB : ∀ j : Nat, j < 15 → (Cond.eq (.elem (.static "MaypoleGreen" "BODIES" "[I") (.int (Int32.ofNat j))) (.int (Int32.ofInt (gb_BO.getD j 0)))).before #[Value.ref b] s = true := by
    intro j hj
    rcases (show j = 0 ∨ j = 1 ∨ j = 2 ∨ j = 3 ∨ j = 4 ∨ j = 5 ∨ j = 6 ∨ j = 7 ∨ j = 8 ∨ j = 9 ∨ j = 10 ∨ j = 11 ∨ j = 12 ∨ j = 13 ∨ j = 14 by omega) with rfl | rfl | rfl | rfl | rfl | rfl | rfl | rfl | rfl | rfl | rfl | rfl | rfl | rfl | rfl
    all_goals exact hfl _ (by decide +kernel)
  obtain ⟨tB, vB, xB, lB⟩ := sa_X (t := .static "MaypoleGreen" "BODIES" "[I") (L := 15) (xs := gb_BO) (by decide) (hfl _ (by decide +kernel)) (hfl _ (by decide +kernel)) mB
  have mK : ∀ j : Nat, j < 5 → (Cond.eq (.elem (.static "MaypoleGreen" "KIND_ABOVE" "[I") (.int (Int32.ofNat j))) (.int (Int32.ofInt (gb_KA.getD j 0)))).before #[Value.ref b] s = true := by
    intro j hj
    rcases (show j = 0 ∨ j = 1 ∨ j = 2 ∨ j = 3 ∨ j = 4 by omega) with rfl | rfl | rfl | rfl | rfl
    all_goals exact hfl _ (by decide +kernel)
  obtain ⟨tK, vK, xK, lK⟩ := sa_X (t := .static "MaypoleGreen" "KIND_ABOVE" "[I") (L := 5) (xs := gb_KA) (by decide) (hfl _ (by decide +kernel)) (hfl _ (by decide +kernel)) mK
  refine ⟨(s.heap.size, D, fun k => if k = 13 then cI else if k = 15 then cPerson else if k = 16 then cSteps else cTape, fun k => if k = 0 then tB else if k = 1 then tK else b), rfl, rfl, ⟨hD, ?_⟩, ?_, ?_, ?_, ⟨?_, xB, lB⟩, ⟨?_, xK, lK⟩⟩
  · intro k q hq
    match k, hq with
    | 0, hq => cases hq; exact ⟨fun n z => ⟨fun k h => (by cases h), kI, i2, pI, i3⟩, i1⟩
    | 1, hq => cases hq; exact ⟨fun n z => ⟨fun k h => (by cases h), kPerson, fPerson3, pPerson, fPerson4⟩, ⟨kPerson, pPerson, fPerson3, fPerson4, fPerson1, fPerson5⟩⟩
    | 2, hq => cases hq; exact ⟨fun n z => ⟨fun k h => (by cases h), kSteps, fSteps3, pSteps, fSteps4⟩, ⟨kSteps, pSteps, fSteps3, fSteps4, fSteps1, fSteps5⟩⟩
    | 3, hq => cases hq; exact ⟨fun n z => ⟨fun k h => (by cases h), kTape, fTape3, pTape, fTape4⟩, ⟨kTape, pTape, fTape3, fTape4, fTape1, fTape5⟩⟩
    | k + 4, hq => simp [gb_tys] at hq
  · show ∀ q ∈ gb_NM, _
    exact (List.forall_mem_cons.mpr ⟨va_Nw.of rfl (hts _ (tl_ (i := 30) (by decide +kernel))), (List.forall_mem_cons.mpr ⟨va_Nw.of rfl (hts _ (tl_ (i := 45) (by decide +kernel))), (List.forall_mem_cons.mpr ⟨va_Nw.of rfl (hts _ (tl_ (i := 103) (by decide +kernel))), (List.forall_mem_cons.mpr ⟨va_Nw.of rfl (hts _ (tl_ (i := 130) (by decide +kernel))), (List.forall_mem_cons.mpr ⟨va_Nw.of rfl (hts _ (tl_ (i := 161) (by decide +kernel))), (List.forall_mem_cons.mpr ⟨va_Nw.of rfl (hts _ (tl_ (i := 198) (by decide +kernel))), (List.forall_mem_cons.mpr ⟨va_Nw.of rfl (hts _ (tl_ (i := 229) (by decide +kernel))), (List.forall_mem_cons.mpr ⟨va_Nw.of rfl (hts _ (tl_ (i := 253) (by decide +kernel))), (List.forall_mem_cons.mpr ⟨va_Nw.of rfl (hts _ (tl_ (i := 286) (by decide +kernel))), (List.forall_mem_cons.mpr ⟨va_Nw.of rfl (hts _ (tl_ (i := 493) (by decide +kernel))), (List.forall_mem_cons.mpr ⟨va_Nw.of rfl (hts _ (tl_ (i := 512) (by decide +kernel))), (List.forall_mem_cons.mpr ⟨va_Nw.of rfl (hts _ (tl_ (i := 515) (by decide +kernel))), (List.forall_mem_cons.mpr ⟨va_Nw.of rfl (hts _ (tl_ (i := 641) (by decide +kernel))), (List.forall_mem_cons.mpr ⟨va_Nw.of rfl (hts _ (tl_ (i := 642) (by decide +kernel))), (List.forall_mem_cons.mpr ⟨va_Nw.of rfl (hts _ (tl_ (i := 804) (by decide +kernel))), (List.forall_mem_cons.mpr ⟨va_Nw.of rfl (hts _ (tl_ (i := 869) (by decide +kernel))), (fun _ h => absurd h List.not_mem_nil)⟩)⟩)⟩)⟩)⟩)⟩)⟩)⟩)⟩)⟩)⟩)⟩)⟩)⟩)⟩)⟩)
  · show ∀ q ∈ gb_NF, _
    exact (List.forall_mem_cons.mpr ⟨va_Nw.of rfl (hts _ (tl_ (i := 882) (by decide +kernel))), (List.forall_mem_cons.mpr ⟨va_Nw.of rfl (hts _ (tl_ (i := 884) (by decide +kernel))), (List.forall_mem_cons.mpr ⟨va_Nw.of rfl (hts _ (tl_ (i := 910) (by decide +kernel))), (fun _ h => absurd h List.not_mem_nil)⟩)⟩)⟩)
  · show ∀ C ∈ gb_AO, _
    exact (List.forall_mem_cons.mpr ⟨va_AO.of wPerson, (List.forall_mem_cons.mpr ⟨va_AO.of wSteps, (List.forall_mem_cons.mpr ⟨va_AO.of wTape, (fun _ h => absurd h List.not_mem_nil)⟩)⟩)⟩)
  · exact va_Zof (hts (.laysStatic "MaypoleGreen" "BODIES" "[I") (tl_ (i := 883) (by decide +kernel))) (hlw _ iniX11) vB (fun a ha => Nat.not_le.mpr ha)
  · exact va_Zof (hts (.laysStatic "MaypoleGreen" "KIND_ABOVE" "[I") (tl_ (i := 885) (by decide +kernel))) (hlw _ iniX11) vK (fun a ha => Nat.not_le.mpr ha)
theorem law_0 {L : Nat} {xs : Nat → Int32} (e : Nat) (hL : L ≤ 384) : L_ (gb_X L xs) mL_law (e + 20 + 1) (1 + (79 + (1 + (44 + (2 * 64))))) (19 + (6194 + (61 + (17030 + (302 * 64))))) 0 [some (.inr (some 1000002)), none, none, none] [] t0_ h0_ (fun r _ _ => r = some (.inl 1)) := by
  refine L_newz (a := 0) (bc := 79 + (1 + (44 + (2 * 64)))) (bs := 6194 + (61 + (17030 + (302 * 64)))) cl11 kL_7 (by decide) rfl (by decide) (fun _ => rfl) rfl rfl dL_law_0 ?_
  refine L_dup dL_law_3 ?_
  refine L_callIc (as := []) (bc := 1 + (44 + (2 * 64))) (bs := 61 + (17030 + (302 * 64))) qL_9 (x_iX11 (e + 17)) rfl rfl (Nat.le_of_ble_eq_true rfl) rfl rfl dL_law_4 ?_
  refine L_astore_n (i := 1) (ls' := [some (.inr (some 1000002)), some (.inr (some 0)), none, none]) dL_law_7 rfl (by decide) rfl ?_
  refine L_newz (a := 81) (bc := 44 + (2 * 64)) (bs := 17030 + (302 * 64)) cl12 kL_10 (by decide) (by decide +kernel) (by decide) (fun j => H81_z j (by decide)) rfl rfl dL_law_8 ?_
  refine L_dup dL_law_11 ?_
  refine L_callIc (as := []) (bc := 2 * 64) (bs := 302 * 64) qL_12 (x_iX12 (e + 19)) rfl rfl (Nat.le_of_ble_eq_true rfl) rfl rfl dL_law_12 ?_
  refine L_astore_n (i := 2) (ls' := [some (.inr (some 1000002)), some (.inr (some 0)), some (.inr (some 81)), none]) dL_law_15 rfl (by decide) rfl ?_
  refine L_iconst dL_law_16 ?_
  refine L_istore_n (i := 3) (ls' := [some (.inr (some 1000002)), some (.inr (some 0)), some (.inr (some 81)), some (.inl 0)]) dL_law_17 rfl (by decide) rfl ?_
  exact law_L e hL 64 0 T126_ H126_ (by omega) (by omega) SIM_0
