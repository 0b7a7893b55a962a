/-! System.arraycopy over int arrays -/
section GY
variable {M : MT} {d bc bs pc : Nat} {ls : List (Option AV)} {st : List AV} {τ : TT} {h : HT} {Z : ZT}
theorem G_copy {idx a0 a1 n0 n1 : Nat} {sp dp n : Int} (hc : Cond.methodLink M.2.1 idx arraycopyName ∈ gb_LW ∧ Cond.native arraycopyName ∈ gb_LW ∧ Cond.static arraycopyName ∈ gb_LW ∧ Cond.initialized "java/lang/System" ∈ gb_LW) (hl : st.length ≤ 8) (hd : decode M.1 pc = .ok (.invokestatic idx, 3)) (ho0 : ar_ τ a0 13 n0) (ho1 : ar_ τ a1 13 n1) (k1 : 0 ≤ sp) (k2 : 0 ≤ dp) (k3 : 0 ≤ n) (k4 : sp + n ≤ n0) (k5 : dp + n ≤ n1)
    (kk : G_ M (d + 1) bc bs (pc + 3) ls st τ (hc_ h a0 a1 sp.toNat dp.toNat n.toNat) Z) : G_ M (d + 1) bc bs pc ls (.inl n :: .inl dp :: .inr (some a1) :: .inl sp :: .inr (some a0) :: st) τ h Z := by
  intro B p l e R s m args below meth c H locs cells slots cm sm la Q hC hR h1 h2 h3 h4 hL hE
  have hts := hC.2.2.2.2.1
  have hfr := hC.2.2.2.2.2.1
  have hlo := hC.2.2.2.2.2.2.1
  have hK := hC.2.2.2.2.2.2.2.1.1
  have hg0 : a0 ≠ 64 := gb_ng hR.1 ho0.1 ho0.2.1 (by decide)
  have hg1 : a1 ≠ 64 := gb_ng hR.1 ho1.1 ho1.2.1 (by decide)
  obtain ⟨⟨hP, hD, hz0, hz1⟩, hS⟩ := hR
  have he0 : (gb_w B τ h)[gb_ps a0]? = some (gb_ad B a0, .inl (B.2.2.1 13, n0, .inl (fun i => Int32.ofInt (h a0 i)))) := by rw [gb_w_get ho0.1 hg0, gb_ent_i ho0.2.1 (by decide) (by decide), ho0.2.2.1]
  have he1 : (gb_w B τ h)[gb_ps a1]? = some (gb_ad B a1, .inl (B.2.2.1 13, n1, .inl (fun i => Int32.ofInt (h a1 i)))) := by rw [gb_w_get ho1.1 hg1, gb_ent_i ho1.2.1 (by decide) (by decide), ho1.2.2.1]
  have b0 := ho0.2.2.2
  have b1 := ho1.2.2.2
  have rs : -2147483648 ≤ sp ∧ sp ≤ 2147483647 := by omega
  have rd : -2147483648 ≤ dp ∧ dp ≤ 2147483647 := by omega
  have rn : -2147483648 ≤ n ∧ n ≤ 2147483647 := by omega
  have es : (Int32.ofInt sp).toInt = sp := gb_ofInt rs
  have ed : (Int32.ofInt dp).toInt = dp := gb_ofInt rd
  have en : (Int32.ofInt n).toInt = n := gb_ofInt rn
  have ns : (Int32.ofInt sp).toNatClampNeg = sp.toNat := by show (Int32.ofInt sp).toInt.toNat = _; rw [es]
  have nd : (Int32.ofInt dp).toNatClampNeg = dp.toNat := by show (Int32.ofInt dp).toInt.toNat = _; rw [ed]
  have nn : (Int32.ofInt n).toNatClampNeg = n.toNat := by show (Int32.ofInt n).toInt.toNat = _; rw [en]
  have q1 : ¬ Int32.ofInt sp < 0 := by rw [gb_0, gb_lt rs gb_r0]; omega
  have q2 : ¬ Int32.ofInt dp < 0 := by rw [gb_0, gb_lt rd gb_r0]; omega
  have q3 : ¬ Int32.ofInt n < 0 := by rw [gb_0, gb_lt rn gb_r0]; omega
  have hw := gb_cats B st
  intro T hT X
  have hc0 : H[gb_ad B a0]? = some (vp_cell (B.2.2.1 13) (n0, .inl (fun i => Int32.ofInt (h a0 i)))) := hP (gb_ps a0) _ he0
  have hc1 : H[gb_ad B a1]? = some (vp_cell (B.2.2.1 13) (n1, .inl (fun i => Int32.ofInt (h a1 i)))) := hP (gb_ps a1) _ he1
  obtain ⟨-, kk0, hk0, cm0, hkk0⟩ := (hK.2 0 (B.2.2.1 13, .int) rfl).1 n0 (fun j => .int (Int32.ofInt (h a0 j)))
  obtain ⟨-, kk1, hk1, cm1, hkk1⟩ := (hK.2 0 (B.2.2.1 13, .int) rfl).1 n1 (fun j => .int (Int32.ofInt (h a1 j)))
  obtain ⟨vm', X', step⟩ := X.arraycopy hC.1 hC.2.2.2.1 (hts _ hc.1) (hts _ hc.2.1) (hts _ hc.2.2.1) (hts _ hc.2.2.2) (src := gb_ad B a0) (dst := gb_ad B a1) (cs := vp_cell (B.2.2.1 13) (n0, .inl (fun i => Int32.ofInt (h a0 i)))) (cd := vp_cell (B.2.2.1 13) (n1, .inl (fun i => Int32.ofInt (h a1 i)))) (srcPos := Int32.ofInt sp) (destPos := Int32.ofInt dp) (n := Int32.ofInt n) (by rw [hT]; exact hc0) (by rw [hT]; exact hc1)
    (fun _ h => by cases h) (fun _ h => by cases h) (fun h => by cases h) (fun h => by cases h) hk0 hk1 hkk0 hkk1 (by simp [refKind]) q1 q2 q3
    (by rw [es, en]; show ¬ _ > ((arrV _ n0 (fun j => .int (Int32.ofInt (h a0 j)))).slots.size : Int); rw [arrV_size]; omega)
    (by rw [ed, en]; show ¬ _ > ((arrV _ n1 (fun j => .int (Int32.ofInt (h a1 j)))).slots.size : Int); rw [arrV_size]; omega)
    (fun vm₁ _ i hi => by
      rw [nn] at hi
      have e : (vp_cell (B.2.2.1 13) (n0, .inl (fun i => Int32.ofInt (h a0 i)))).slots.getD ((Int32.ofInt sp).toNatClampNeg + i) .null = .int (Int32.ofInt (h a0 ((Int32.ofInt sp).toNatClampNeg + i))) := by
        show (arrV _ n0 (fun j => .int (Int32.ofInt (h a0 j)))).slots.getD _ _ = _
        rw [Array.getD_eq_getD_getElem?, arrV_read _ _ (by rw [ns]; omega)]
        rfl
      refine ⟨?_, ?_⟩
      · rw [e]
        rfl
      · rw [e]
        exact trivial)
    (g := F0 m pc la ((.inl n :: .inl dp :: .inr (some a1) :: .inl sp :: .inr (some a0) :: st : List AV).map (gb_tv B))) rfl (by rw [hC.2.2.1]; exact hL.1.1) (rest := st.map (gb_tv B)) rfl (by rw [hC.2.1]; exact hd) (by omega) (by
      show 2 * 0 + _ + (nativeFrameWords "java/lang/System" "arraycopy" 5 + 11) ≤ _
      have e9 : nativeFrameWords "java/lang/System" "arraycopy" 5 ≤ 40 := by decide +kernel
      omega)
  have e1 : copied (vp_cell (B.2.2.1 13) (n0, .inl (fun i => Int32.ofInt (h a0 i)))) (vp_cell (B.2.2.1 13) (n1, .inl (fun i => Int32.ofInt (h a1 i)))) (Int32.ofInt sp) (Int32.ofInt dp) (Int32.ofInt n) = vp_cell (B.2.2.1 13) (n1, .inl (va_cpy (fun i => Int32.ofInt (h a0 i)) (fun i => Int32.ofInt (h a1 i)) (Int32.ofInt sp).toNatClampNeg (Int32.ofInt dp).toNatClampNeg (Int32.ofInt n).toNatClampNeg)) := va_copied (fun z => .int z) (B.2.2.1 13) (B.2.2.1 13) (fun i => Int32.ofInt (h a0 i)) (fun i => Int32.ofInt (h a1 i)) (by rw [ns, nn]; omega)
  rw [ns, nd, nn] at e1
  rw [e1] at X' step
  have ew : (gb_w B τ h).set (gb_ps a1) (gb_ad B a1, .inl (B.2.2.1 13, n1, .inl (va_cpy (fun i => Int32.ofInt (h a0 i)) (fun i => Int32.ofInt (h a1 i)) sp.toNat dp.toNat n.toNat))) = gb_w B τ (hc_ h a0 a1 sp.toNat dp.toNat n.toNat) := by
    refine gb_w_set ho1.1 hg1 rfl ?_ (fun b hb => gb_ent_ne fun i => if_neg fun q => hb q.1)
    rw [gb_ent_i ho1.2.1 (by decide) (by decide), ho1.2.2.1]
    congr 4
    funext j
    unfold hc_ va_cpy
    by_cases hj : dp.toNat ≤ j ∧ j < dp.toNat + n.toNat
    · rw [if_pos ⟨rfl, hj⟩, if_pos hj]
    · rw [if_neg (fun q => hj q.2), if_neg hj]
  generalize hV : vp_cell (B.2.2.1 13) (n1, .inl (va_cpy (fun i => Int32.ofInt (h a0 i)) (fun i => Int32.ofInt (h a1 i)) sp.toNat dp.toNat n.toNat)) = V at X' step
  have hl1 : gb_ad B a1 < H.size := (Array.getElem?_eq_some_iff.mp hc1).1
  have hheap : ((T.setVm vm').setCell (gb_ad B a1) V).heap = H.setIfInBounds (gb_ad B a1) V := by rw [← hT]; rfl
  have oq : ∀ q : Nat, q ≠ gb_ad B a1 → (H.setIfInBounds (gb_ad B a1) V)[q]? = H[q]? := fun q hq => by simp [Array.getElem?_setIfInBounds, Ne.symm hq]
  have hat : va_at B.2.1 vwCl (gb_ad B a1, .inl (B.2.2.1 13, n1, .inl (va_cpy (fun i => Int32.ofInt (h a0 i)) (fun i => Int32.ofInt (h a1 i)) sp.toNat dp.toNat n.toNat))) (H.setIfInBounds (gb_ad B a1) V) := by
    show (H.setIfInBounds (gb_ad B a1) V)[gb_ad B a1]? = some _
    rw [hV]
    simp [Array.getElem?_setIfInBounds, hl1]
  have hP1 := hP.set hD he1 hat oq
  have hD1 := hD.set (e := .inl (B.2.2.1 13, n1, .inl (va_cpy (fun i => Int32.ofInt (h a0 i)) (fun i => Int32.ofInt (h a1 i)) sp.toNat dp.toNat n.toNat))) he1
  rw [ew] at hP1 hD1
  obtain ⟨t, t1, t2⟩ := kk B p l e R s m args below meth c (H.setIfInBounds (gb_ad B a1) V) _ cells slots cm sm la Q hC ⟨⟨hP1, hD1, by rw [Array.size_setIfInBounds]; exact hz0, hz1⟩, ⟨by rw [Array.size_setIfInBounds]; exact hS.1, fun q g1 g2 => by
      rw [oq q (fun e => g2 (by rw [e]; exact hD.2 (gb_ps a1) _ he1))]
      exact hS.2.1 q g1 g2, fun q hq => by
      rcases List.mem_append.mp hq with h | h
      · exact hS.2.2 q h
      · obtain ⟨z, -, hz⟩ := List.mem_map.mp h
        rw [← hz]
        exact hD.2 (gb_ps a1) _ he1⟩⟩ h1 h2 h3 h4 hL hE _ hheap X'
  exact ⟨t, step t t1, t2⟩
end GY
