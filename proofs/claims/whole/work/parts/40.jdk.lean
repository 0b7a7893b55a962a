/-! the host's own methods; the small ones of the class -/
theorem hc00 {h : HT} {a0 a1 n : Nat} : hf_ h a1 0 (0 + n) (fun j => h a0 (0 + (j - 0))) = hf_ h a1 0 n (h a0) := by
  rw [Nat.zero_add]
  congr 1
  funext j
  rw [Nat.zero_add, Nat.sub_zero]
theorem hc0d {h : HT} {a0 a1 kd n : Nat} : hf_ h a1 kd (kd + n) (fun j => h a0 (0 + (j - kd))) = hf_ h a1 kd (kd + n) (fun j => h a0 (j - kd)) := by
  congr 1
  funext j
  rw [Nat.zero_add]
theorem hc00k {h : HT} {a0 a1 n : Nat} {f : Nat → Int} (e : ∀ j, h a0 j = f j) : hf_ h a1 0 (0 + n) (fun j => h a0 (0 + (j - 0))) = hf_ h a1 0 n f := by
  obtain rfl : f = h a0 := funext fun j => (e j).symm
  exact hc00
theorem hc0dk {h : HT} {a0 a1 kd n : Nat} {f : Nat → Int} (e : ∀ j, h a0 j = f j) : hf_ h a1 kd (kd + n) (fun j => h a0 (0 + (j - kd))) = hf_ h a1 kd (kd + n) (fun j => f (j - kd)) := by
  obtain rfl : f = h a0 := funext fun j => (e j).symm
  exact hc0d
theorem hf_c {h : HT} {a lo hi : Nat} {f g : Nat → Int} (e : ∀ j, lo ≤ j → j < hi → f j = g j) : hf_ h a lo hi f = hf_ h a lo hi g := by
  funext b j
  unfold hf_
  by_cases z : b = a ∧ lo ≤ j ∧ j < hi
  · rw [if_pos z, if_pos z, e j z.2.1 z.2.2]
  · rw [if_neg z, if_neg z]
theorem b_xor_r (a b : Int) : -2147483648 ≤ b_xor a b ∧ b_xor a b ≤ 2147483647 := by
  unfold b_xor
  have h1 := Int32.toInt_lt (Int32.ofInt a ^^^ Int32.ofInt b)
  have h2 := Int32.le_toInt (Int32.ofInt a ^^^ Int32.ofInt b)
  omega
theorem b_ushr_r (a b : Int) : -2147483648 ≤ b_ushr a b ∧ b_ushr a b ≤ 2147483647 := by
  unfold b_ushr
  have h1 := Int32.toInt_lt ((Int32.ofInt a).toUInt32 >>> ((Int32.ofInt b).toUInt32 &&& Int32.toUInt32 31)).toInt32
  have h2 := Int32.le_toInt ((Int32.ofInt a).toUInt32 >>> ((Int32.ofInt b).toUInt32 &&& Int32.toUInt32 31)).toInt32
  omega
theorem b_xor_s {a b : Int} (ha : -2147483648 ≤ a ∧ a ≤ 2147483647) (hb : -2147483648 ≤ b ∧ b ≤ 2147483647) : b_xor a b < 0 ↔ ¬ (a < 0 ↔ b < 0) := by
  have e : b_xor a b = ((Int32.ofInt a).toBitVec ^^^ (Int32.ofInt b).toBitVec).toInt := rfl
  rw [e]
  have h1 := BitVec.msb_eq_toInt (x := (Int32.ofInt a).toBitVec ^^^ (Int32.ofInt b).toBitVec)
  have h2 := BitVec.msb_eq_toInt (x := (Int32.ofInt a).toBitVec)
  have h3 := BitVec.msb_eq_toInt (x := (Int32.ofInt b).toBitVec)
  rw [BitVec.msb_xor, h2, h3] at h1
  have e2 : (Int32.ofInt a).toBitVec.toInt = a := gb_ofInt ha
  have e3 : (Int32.ofInt b).toBitVec.toInt = b := gb_ofInt hb
  rw [e2, e3] at h1
  generalize ((Int32.ofInt a).toBitVec ^^^ (Int32.ofInt b).toBitVec).toInt = X at h1 ⊢
  clear e e2 e3 h2 h3 ha hb
  by_cases x : a < 0 <;> by_cases y : b < 0 <;> by_cases z : X < 0 <;> simp [x, y, z] at h1 ⊢
theorem fm_1 {a n : Int} (hn : 0 < n) (ha : a < 0) (ht : a.tmod n ≠ 0) : a.tmod n + n = a % n := by
  have em := Int.tmod_eq_emod (a := a) (b := n)
  by_cases z : 0 ≤ a ∨ n ∣ a
  · rw [if_pos z] at em
    rcases z with z | z
    · omega
    · rw [Int.emod_eq_zero_of_dvd z] at em
      exact absurd em ht
  · rw [if_neg z] at em
    rw [em]
    have : (n.natAbs : Int) = n := by omega
    omega
theorem fm_0 {a n : Int} (h : 0 ≤ a ∨ a.tmod n = 0) : a.tmod n = a % n := by
  have em := Int.tmod_eq_emod (a := a) (b := n)
  have z : 0 ≤ a ∨ n ∣ a := h.elim Or.inl fun q => Or.inr (Int.dvd_of_tmod_eq_zero q)
  rw [if_pos z] at em
  omega
theorem fd_1 {a n : Int} (hn : 0 < n) (ha : a < 0) (ht : ¬ a.tdiv n * n = a) : a.tdiv n - 1 = a / n := by
  have em := Int.tdiv_eq_ediv (a := a) (b := n)
  by_cases z : 0 ≤ a ∨ n ∣ a
  · rcases z with z | z
    · omega
    · exact absurd (Int.tdiv_mul_cancel z) ht
  · rw [if_neg z, Int.sign_eq_one_of_pos hn] at em
    omega
theorem fd_0 {a n : Int} (h : 0 ≤ a ∨ a.tdiv n * n = a) : a.tdiv n = a / n := by
  have em := Int.tdiv_eq_ediv (a := a) (b := n)
  have z : 0 ≤ a ∨ n ∣ a := h.elim Or.inl fun q => Or.inr ⟨a.tdiv n, by rw [Int.mul_comm]; exact q.symm⟩
  rw [if_pos z] at em
  omega
theorem Met_ofWF {l : Launch} {y : MethodName} {ws ws' : List Cond} {rm : Room} {Pc : Array Value → State → Prop} {Qc : Array Value → State → Outcome → State → Prop} {mc ms : Nat} {free : Addr → Prop} {cc : ByteArray} {maxL : Nat} {ret : Option FieldType}
    (hy : plainFor y = true) (hw : ws = Cond.code y cc maxL ret :: ws')
    (body : ∀ p e s m args below meth c s₁, BodyLoose p l y (headSpec ws rm) cc maxL ret e s m args below meth c s₁ → c.maxLocals = maxL → Pc args s →
      W p l e (headSpec ws rm).room s m args below meth c s.heap [] 0 0 (MQ below Qc args s mc ms free) (entryFrame m args maxL)) : Met l y ws rm Pc Qc mc ms free := by
  refine MetFree.of_bodySF (code := cc) (maxLocals := maxL) (ret := ret) hy ?_ ?_
  · intro args s m h hn
    obtain ⟨meth, c, h1, h2, h3, h4, h5, h6, -, -⟩ := Cond.code_spec hn (atoms_spec (ws := ws) h _ (by rw [hw]; exact List.mem_cons_self))
    exact ⟨meth, c, h1, h2, h3, h4, h5, h6⟩
  · intro p e s m args below meth c s₁ B hml hP _
    have hh0 : s₁.heap = s.heap := by rw [B.state]; rfl
    obtain ⟨t, a1, o, b1, b2, b3⟩ := body p e s m args below meth c s₁ B hml hP s₁ hh0 (Stand.of_body B)
    exact ⟨t, o, a1, b1, b2, ⟨b3.1, b3.2⟩⟩
section GC2
variable {M : MT} {d bc bs pc : Nat} {ls : List (Option AV)} {st : List AV} {τ : TT} {h : HT} {Z : ZT}
theorem S_ofGF {as : List AV} (hy : plainFor M.2.2.2.2 = true) (hown : M.2.2.2.2.cls = M.2.1) (hn : as.length ≤ M.2.2.1) (g : G_ M d bc bs 0 (as.map some) [] τ h Z) : S_ M d bc bs as τ h Z := by
  intro l B
  refine Met_ofWF (cc := M.1) (maxL := M.2.2.1) (ret := M.2.2.2.1) hy rfl ?_
  intro p e s m args below meth c s₁ BB hml hv
  obtain ⟨rfl, hRU, hSF, hbz⟩ := hv
  have hts := atoms_spec (ws := gb_ws M) BB.pre
  have hfc : s.vm.findClass M.2.2.2.2.cls = some m.cls := findClass_of_methodNamed BB.named
  have hnm : meth.name = M.2.2.2.2.name := (name_of_methodNamed BB.named BB.method).1
  have hr := BB.returns
  have hlocks := BB.notSynchronized
  have hle : (lg_sl (as.map (gb_tv B))).length ≤ M.2.2.1 := by rw [gb_lgsl]; exact hn
  have hl := lv_entry (as.map (gb_tv B)) (n := M.2.2.1) hle
  rw [lg_entry_eq]
  generalize (lg_sl (as.map (gb_tv B)) ++ List.replicate (M.2.2.1 - (lg_sl (as.map (gb_tv B))).length) Slot.unset).toArray = la at hl ⊢
  have hC : gb_CX M d B p (headSpec (gb_ws M) (gb_rm d bc bs)).room s m (as.map (gb_tv B)).toArray meth c :=
    ⟨BB.exec, BB.bytes, hml, by rw [← hown]; exact hfc, fun w hw => hts w (List.mem_cons_of_mem _ hw), Nat.le_refl _, Nat.le_refl _, hSF, hbz, hnm⟩
  have hL : gb_LR B M.2.2.1 (as.map some) la := by
    refine ⟨⟨hl.1, hl.2.1, fun q hq => by cases hq⟩, fun i v hi => ?_⟩
    rw [List.getElem?_map] at hi
    cases hq : as[i]? with
    | none => rw [hq] at hi; cases hi
    | some w =>
      rw [hq] at hi
      cases hi
      have := hl.2.2 _ (gb_args B as 0 i v hq)
      rwa [Nat.zero_add] at this
  refine g B p l e _ s m _ below meth c s.heap [] 0 0 bc bs la _ hC ⟨hRU, va_S.rf⟩ (by omega) (by omega) (Nat.le_refl _) (Nat.le_refl _) hL ?_
  intro r τ' h' H' locs' cells' slots' pc' la' hz hR' q1 q2 hrt
  refine W.widen (k := bc) (n := bs) q1 q2 ?_
  have hq : ∀ t : State, t.heap = H' → s.WarmedH t.vm → gb_Q B Z (as.map (gb_tv B)).toArray s (.returned (r.map (gb_tv B))) t := fun t ht hW => ⟨⟨r, τ', h', rfl, hz, by rw [ht]; exact hR'.1⟩, hR'.2.F ht⟩
  unfold gb_rt at hrt
  split at hrt
  · rename_i hm
    obtain ⟨hd, rfl⟩ := hrt
    exact W.vret BB.exec BB.bytes (by rw [hr, hm]) hq hR'.2.2.2 hd
  · rename_i ty hm
    split at hrt
    · rename_i hR2
      obtain ⟨hd, x, rfl⟩ := hrt
      refine W.aret BB.exec BB.bytes (by rw [hr, hm]) ?_ (gb_tv_o B x) hq hR'.2.2.2 hd
      cases ty <;> first | exact Or.inl ⟨_, rfl⟩ | exact Or.inr ⟨_, rfl⟩ | exact absurd hR2 (by decide)
    · obtain ⟨hd, x, rfl, hnn⟩ := hrt
      exact W.zret BB.exec BB.bytes (by rw [hr, hm]) hnn hq hR'.2.2.2 hd
end GC2
theorem S_goF {M : MT} {d bc bs k : Nat} {as : List AV} {ls : List (Option AV)} {τ : TT} {h : HT} {Z : ZT} (hy : plainFor M.2.2.2.2 = true) (hown : M.2.2.2.2.cls = M.2.1) (hn : as.length ≤ M.2.2.1) (hl : as.map some ++ List.replicate k none = ls) (g : G_ M d bc bs 0 ls [] τ h Z) : S_ M d bc bs as τ h Z := by
  refine S_ofGF hy hown hn (G_lsub (ls' := ls) (fun i v hi => ?_) g)
  rw [← hl] at hi
  by_cases hc : i < (as.map some).length
  · rwa [List.getElem?_append_left hc] at hi
  · rw [List.getElem?_append_right (by omega)] at hi
    rw [List.getElem?_replicate] at hi
    split at hi <;> simp at hi

theorem j_abs (d : Nat) (τ : TT) (h : HT) (v : Int) (r_v : -2147483648 ≤ v ∧ v ≤ 2147483647) : S_ mJ9_abs_0f7a4 d 0 0 [.inl v] τ h (Zi τ fun r h' => r = f_ab v ∧ h' = h) := by
  refine S_goF (k := 0) (ls := [some (.inl v)]) (by decide +kernel) rfl (Nat.le_of_ble_eq_true rfl) rfl ?_
  refine G_iload_n (i := 0) dJ9_abs_0f7a4_0 rfl rfl ?_
  suffices K_3 : ∀ x_2 : Int, x_2 = (if 0 ≤ v then v else -v) → G_ mJ9_abs_0f7a4 d 0 0 10 [some (.inl v)] [.inl x_2] τ h (Zi τ fun r h' => r = f_ab v ∧ h' = h) by
    refine G_if_ge (tgt := 9) dJ9_abs_0f7a4_1 (by decide) (by omega) (fun c_1 => ?_) (fun c_1 => ?_)
    · refine G_iload_n (i := 0) dJ9_abs_0f7a4_9 rfl rfl ?_
      exact K_3 _ (if_pos c_1).symm
    · refine G_iload_n (i := 0) dJ9_abs_0f7a4_4 rfl rfl ?_
      refine G_ineg dJ9_abs_0f7a4_5 ?_
      refine G_goto (tgt := 10) dJ9_abs_0f7a4_6 (by decide) ?_
      exact K_3 _ (if_neg c_1).symm
  intro x_2 ex_2
  refine G_iretZ rfl dJ9_abs_0f7a4_10 ?_
  exact ⟨by unfold f_ab; omega, rfl⟩

theorem j_max (d : Nat) (τ : TT) (h : HT) (v w : Int) (r_v : -2147483648 ≤ v ∧ v ≤ 2147483647) (r_w : -2147483648 ≤ w ∧ w ≤ 2147483647) : S_ mJ9_max_7cf53 d 0 0 [.inl v, .inl w] τ h (Zi τ fun r h' => r = (if v < w then w else v) ∧ h' = h) := by
  refine S_goF (k := 0) (ls := [some (.inl v), some (.inl w)]) (by decide +kernel) rfl (Nat.le_of_ble_eq_true rfl) rfl ?_
  refine G_iload_n (i := 0) dJ9_max_7cf53_0 rfl rfl ?_
  refine G_iload_n (i := 1) dJ9_max_7cf53_1 rfl rfl ?_
  suffices K_3 : ∀ x_2 : Int, x_2 = (if v < w then w else v) → G_ mJ9_max_7cf53 d 0 0 10 [some (.inl v), some (.inl w)] [.inl x_2] τ h (Zi τ fun r h' => r = (if v < w then w else v) ∧ h' = h) by
    refine G_icmp_lt (tgt := 9) dJ9_max_7cf53_2 (by decide) (by omega) (by omega) (fun c_1 => ?_) (fun c_1 => ?_)
    · refine G_iload_n (i := 1) dJ9_max_7cf53_9 rfl rfl ?_
      exact K_3 _ (if_pos c_1).symm
    · refine G_iload_n (i := 0) dJ9_max_7cf53_5 rfl rfl ?_
      refine G_goto (tgt := 10) dJ9_max_7cf53_6 (by decide) ?_
      exact K_3 _ (if_neg c_1).symm
  intro x_2 ex_2
  refine G_iretZ rfl dJ9_max_7cf53_10 ?_
  exact ⟨by omega, rfl⟩

theorem j_floorMod (d : Nat) (τ : TT) (h : HT) (v w : Int) (r_v : -2147483648 ≤ v ∧ v ≤ 2147483647) (r_w : -2147483648 ≤ w ∧ w ≤ 2147483647) (hw : 0 < w) : S_ mJ9_floorMod_7cf53 d 0 0 [.inl v, .inl w] τ h (Zi τ fun r h' => r = v % w ∧ h' = h) := by
  have bx := b_xor_r v w
  have bs := b_xor_s r_v r_w
  have tr : -2147483648 ≤ v.tmod w ∧ v.tmod w ≤ 2147483647 := by have e1 := Int.tmod_lt_of_pos v hw; have e2 := Int.lt_tmod_of_pos v hw; omega
  refine S_goF (k := 1) (ls := [some (.inl v), some (.inl w), none]) (by decide +kernel) rfl (Nat.le_of_ble_eq_true rfl) rfl ?_
  refine G_iload_n (i := 0) dJ9_floorMod_7cf53_0 rfl rfl ?_
  refine G_iload_n (i := 1) dJ9_floorMod_7cf53_1 rfl rfl ?_
  refine G_irem dJ9_floorMod_7cf53_2 (by omega) (by omega) ?_
  refine G_istore_n (i := 2) (ls' := [some (.inl v), some (.inl w), some (.inl (v.tmod w))]) dJ9_floorMod_7cf53_3 rfl (by decide) rfl ?_
  refine G_iload_n (i := 0) dJ9_floorMod_7cf53_4 rfl rfl ?_
  refine G_iload_n (i := 1) dJ9_floorMod_7cf53_5 rfl rfl ?_
  refine G_ixor dJ9_floorMod_7cf53_6 ?_
  refine G_if_ge (tgt := 18) dJ9_floorMod_7cf53_7 (by decide) (by omega) (fun c_1 => ?_) (fun c_1 => ?_)
  · refine G_iload_n (i := 2) dJ9_floorMod_7cf53_18 rfl rfl ?_
    refine G_iretZ rfl dJ9_floorMod_7cf53_19 ?_
    exact ⟨fm_0 (by omega), rfl⟩
  · refine G_iload_n (i := 2) dJ9_floorMod_7cf53_10 rfl rfl ?_
    refine G_if_eq (tgt := 18) dJ9_floorMod_7cf53_11 (by decide) (by omega) (fun c_2 => ?_) (fun c_2 => ?_)
    · refine G_iload_n (i := 2) dJ9_floorMod_7cf53_18 rfl rfl ?_
      refine G_iretZ rfl dJ9_floorMod_7cf53_19 ?_
      exact ⟨fm_0 (by omega), rfl⟩
    · refine G_iload_n (i := 2) dJ9_floorMod_7cf53_14 rfl rfl ?_
      refine G_iload_n (i := 1) dJ9_floorMod_7cf53_15 rfl rfl ?_
      refine G_iadd dJ9_floorMod_7cf53_16 ?_
      refine G_iretZ rfl dJ9_floorMod_7cf53_17 ?_
      exact ⟨fm_1 hw (by omega) (by assumption), rfl⟩

theorem j_floorDiv (d : Nat) (τ : TT) (h : HT) (v w : Int) (r_v : -1000 ≤ v ∧ v ≤ 1000) (r_w : 0 < w ∧ w ≤ 1000) : S_ mJ9_floorDiv_7cf53 d 0 0 [.inl v, .inl w] τ h (Zi τ fun r h' => r = v / w ∧ h' = h) := by
  have hw := r_w.1
  have bx := b_xor_r v w
  have bs := b_xor_s (a := v) (b := w) (by omega) (by omega)
  have td : -1000 ≤ v.tdiv w ∧ v.tdiv w ≤ 1000 := by have e := Int.natAbs_tdiv_le_natAbs v w; omega
  have tm : -1000000 ≤ v.tdiv w * w ∧ v.tdiv w * w ≤ 1000000 := by have e1 := Int.tdiv_mul_add_tmod v w; have e2 := Int.tmod_lt_of_pos v hw; have e3 := Int.lt_tmod_of_pos v hw; omega
  refine S_goF (k := 1) (ls := [some (.inl v), some (.inl w), none]) (by decide +kernel) rfl (Nat.le_of_ble_eq_true rfl) rfl ?_
  refine G_iload_n (i := 0) dJ9_floorDiv_7cf53_0 rfl rfl ?_
  refine G_iload_n (i := 1) dJ9_floorDiv_7cf53_1 rfl rfl ?_
  refine G_idiv dJ9_floorDiv_7cf53_2 (by omega) (by omega) ?_
  refine G_istore_n (i := 2) (ls' := [some (.inl v), some (.inl w), some (.inl (v.tdiv w))]) dJ9_floorDiv_7cf53_3 rfl (by decide) rfl ?_
  refine G_iload_n (i := 0) dJ9_floorDiv_7cf53_4 rfl rfl ?_
  refine G_iload_n (i := 1) dJ9_floorDiv_7cf53_5 rfl rfl ?_
  refine G_ixor dJ9_floorDiv_7cf53_6 ?_
  refine G_if_ge (tgt := 21) dJ9_floorDiv_7cf53_7 (by decide) (by omega) (fun c_1 => ?_) (fun c_1 => ?_)
  · refine G_iload_n (i := 2) dJ9_floorDiv_7cf53_21 rfl rfl ?_
    refine G_iretZ rfl dJ9_floorDiv_7cf53_22 ?_
    exact ⟨fd_0 (by omega), rfl⟩
  · refine G_iload_n (i := 2) dJ9_floorDiv_7cf53_10 rfl rfl ?_
    refine G_iload_n (i := 1) dJ9_floorDiv_7cf53_11 rfl rfl ?_
    refine G_imul dJ9_floorDiv_7cf53_12 ?_
    refine G_iload_n (i := 0) dJ9_floorDiv_7cf53_13 rfl rfl ?_
    refine G_icmp_eq (tgt := 21) dJ9_floorDiv_7cf53_14 (by decide) (by omega) (by omega) (fun c_2 => ?_) (fun c_2 => ?_)
    · refine G_iload_n (i := 2) dJ9_floorDiv_7cf53_21 rfl rfl ?_
      refine G_iretZ rfl dJ9_floorDiv_7cf53_22 ?_
      exact ⟨fd_0 (by omega), rfl⟩
    · refine G_iload_n (i := 2) dJ9_floorDiv_7cf53_17 rfl rfl ?_
      refine G_iconst dJ9_floorDiv_7cf53_18 ?_
      refine G_isub dJ9_floorDiv_7cf53_19 ?_
      refine G_iretZ rfl dJ9_floorDiv_7cf53_20 ?_
      exact ⟨fd_1 hw (by omega) (by assumption), rfl⟩

theorem j_fill_L (d : Nat) (τ : TT) (h : HT) (a n : Nat) (hA : ar_ τ a 13 n) (v : Int) : ∀ (n_ : Nat) (i : Nat), n - i < n_ → i ≤ n → G_ mJ7_fill_53178 d 0 0 5 [some (.inr (some a)), some (.inl v), some (.inl (i : Int)), some (.inl (n : Int))] [] τ (hf_ h a 0 i (fun _ => v)) (Zv τ fun h' => h' = hf_ h a 0 n (fun _ => v)) := by
  intro n_
  induction n_ with
  | zero => intro i hm_; exact absurd hm_ (Nat.not_lt_zero _)
  | succ n_ ih =>
    intro i hm_ hi
    have hL := hA.2.2.2
    refine G_iload_n (i := 2) dJ7_fill_53178_5 rfl rfl ?_
    refine G_iload_n (i := 3) dJ7_fill_53178_6 rfl rfl ?_
    refine G_icmp_ge (tgt := 20) dJ7_fill_53178_7 (by decide) (by omega) (by omega) (fun c_1 => ?_) (fun c_1 => ?_)
    · refine G_vretZ rfl dJ7_fill_53178_20 ?_
      obtain rfl : i = n := by omega
      rfl
    · refine G_aload_n (i := 0) dJ7_fill_53178_10 rfl rfl ?_
      refine G_iload_n (i := 2) dJ7_fill_53178_11 rfl rfl ?_
      refine G_iload_n (i := 1) dJ7_fill_53178_12 rfl rfl ?_
      refine G_iastk i dJ7_fill_53178_13 hA (by omega) rfl ?_
      refine G_iinc (ls' := [some (.inr (some a)), some (.inl v), some (.inl ((i : Int) + 1)), some (.inl (n : Int))]) dJ7_fill_53178_14 (by decide) rfl rfl ?_
      refine G_goto (tgt := 5) dJ7_fill_53178_17 (by decide) ?_
      rw [hf_snoc (Nat.zero_le _) rfl]
      exact ih (i + 1) (by omega) (by omega)

theorem j_fill (d : Nat) (τ : TT) (h : HT) (a n : Nat) (hA : ar_ τ a 13 n) (v : Int) : S_ mJ7_fill_53178 d 0 0 [.inr (some a), .inl v] τ h (Zv τ fun h' => h' = hf_ h a 0 n (fun _ => v)) := by
  refine S_go (k := 2) (ls := [some (.inr (some a)), some (.inl v), none, none]) (by decide) rfl (Nat.le_of_ble_eq_true rfl) rfl ?_
  refine G_iconst dJ7_fill_53178_0 ?_
  refine G_istore_n (i := 2) (ls' := [some (.inr (some a)), some (.inl v), some (.inl 0), none]) dJ7_fill_53178_1 rfl (by decide) rfl ?_
  refine G_aload_n (i := 0) dJ7_fill_53178_2 rfl rfl ?_
  refine G_alen (Or.inl rfl) dJ7_fill_53178_3 hA ?_
  refine G_istore_n (i := 3) (ls' := [some (.inr (some a)), some (.inl v), some (.inl 0), some (.inl (n : Int))]) dJ7_fill_53178_4 rfl (by decide) rfl ?_
  have := j_fill_L d τ h a n hA v _ 0 (Nat.lt_succ_self _) (Nat.zero_le _)
  rw [hf_nil] at this
  exact this

def bc_1 (v : Int) : Int := v - b_and (b_ushr v 1) 1431655765
def bc_2 (v : Int) : Int := b_and v 858993459 + b_and (b_ushr v 2) 858993459
def bc_3 (v : Int) : Int := b_and (v + b_ushr v 4) 252645135
def bc_4 (v : Int) : Int := v + b_ushr v 8
def bc_5 (v : Int) : Int := v + b_ushr v 16
def bc_F (v : Int) : Int := b_and (bc_5 (bc_4 (bc_3 (bc_2 (bc_1 v))))) 63
theorem j_bitCount (d : Nat) (τ : TT) (h : HT) (v : Int) : S_ mJ6_bitCount_0f7a4 d 0 0 [.inl v] τ h (Zi τ fun r h' => r = bc_F v ∧ h' = h) := by
  refine S_go (k := 0) (ls := [some (.inl v)]) (by decide) rfl (Nat.le_of_ble_eq_true rfl) rfl ?_
  refine G_iload_n (i := 0) dJ6_bitCount_0f7a4_0 rfl rfl ?_
  refine G_iload_n (i := 0) dJ6_bitCount_0f7a4_1 rfl rfl ?_
  refine G_iconst dJ6_bitCount_0f7a4_2 ?_
  refine G_iushr dJ6_bitCount_0f7a4_3 ?_
  refine G_ldcw (n := 1431655765) nJ6_265 dJ6_bitCount_0f7a4_4 ?_
  refine G_iand dJ6_bitCount_0f7a4_7 ?_
  refine G_isub dJ6_bitCount_0f7a4_8 ?_
  refine G_istore_n (i := 0) (ls' := [some (.inl (v - (b_and (b_ushr v 1) 1431655765)))]) dJ6_bitCount_0f7a4_9 rfl (by decide) rfl ?_
  refine G_iload_n (i := 0) dJ6_bitCount_0f7a4_10 rfl rfl ?_
  refine G_ldcw (n := 858993459) nJ6_266 dJ6_bitCount_0f7a4_11 ?_
  refine G_iand dJ6_bitCount_0f7a4_14 ?_
  refine G_iload_n (i := 0) dJ6_bitCount_0f7a4_15 rfl rfl ?_
  refine G_iconst dJ6_bitCount_0f7a4_16 ?_
  refine G_iushr dJ6_bitCount_0f7a4_17 ?_
  refine G_ldcw (n := 858993459) nJ6_266 dJ6_bitCount_0f7a4_18 ?_
  refine G_iand dJ6_bitCount_0f7a4_21 ?_
  refine G_iadd dJ6_bitCount_0f7a4_22 ?_
  refine G_istore_n (i := 0) (ls' := [some (.inl ((b_and (v - (b_and (b_ushr v 1) 1431655765)) 858993459) + (b_and (b_ushr (v - (b_and (b_ushr v 1) 1431655765)) 2) 858993459)))]) dJ6_bitCount_0f7a4_23 rfl (by decide) rfl ?_
  refine G_iload_n (i := 0) dJ6_bitCount_0f7a4_24 rfl rfl ?_
  refine G_iload_n (i := 0) dJ6_bitCount_0f7a4_25 rfl rfl ?_
  refine G_iconst dJ6_bitCount_0f7a4_26 ?_
  refine G_iushr dJ6_bitCount_0f7a4_27 ?_
  refine G_iadd dJ6_bitCount_0f7a4_28 ?_
  refine G_ldcw (n := 252645135) nJ6_267 dJ6_bitCount_0f7a4_29 ?_
  refine G_iand dJ6_bitCount_0f7a4_32 ?_
  refine G_istore_n (i := 0) (ls' := [some (.inl (b_and (((b_and (v - (b_and (b_ushr v 1) 1431655765)) 858993459) + (b_and (b_ushr (v - (b_and (b_ushr v 1) 1431655765)) 2) 858993459)) + (b_ushr ((b_and (v - (b_and (b_ushr v 1) 1431655765)) 858993459) + (b_and (b_ushr (v - (b_and (b_ushr v 1) 1431655765)) 2) 858993459)) 4)) 252645135))]) dJ6_bitCount_0f7a4_33 rfl (by decide) rfl ?_
  refine G_iload_n (i := 0) dJ6_bitCount_0f7a4_34 rfl rfl ?_
  refine G_iload_n (i := 0) dJ6_bitCount_0f7a4_35 rfl rfl ?_
  refine G_bipush dJ6_bitCount_0f7a4_36 (by decide) ?_
  refine G_iushr dJ6_bitCount_0f7a4_38 ?_
  refine G_iadd dJ6_bitCount_0f7a4_39 ?_
  refine G_istore_n (i := 0) (ls' := [some (.inl ((b_and (((b_and (v - (b_and (b_ushr v 1) 1431655765)) 858993459) + (b_and (b_ushr (v - (b_and (b_ushr v 1) 1431655765)) 2) 858993459)) + (b_ushr ((b_and (v - (b_and (b_ushr v 1) 1431655765)) 858993459) + (b_and (b_ushr (v - (b_and (b_ushr v 1) 1431655765)) 2) 858993459)) 4)) 252645135) + (b_ushr (b_and (((b_and (v - (b_and (b_ushr v 1) 1431655765)) 858993459) + (b_and (b_ushr (v - (b_and (b_ushr v 1) 1431655765)) 2) 858993459)) + (b_ushr ((b_and (v - (b_and (b_ushr v 1) 1431655765)) 858993459) + (b_and (b_ushr (v - (b_and (b_ushr v 1) 1431655765)) 2) 858993459)) 4)) 252645135) 8)))]) dJ6_bitCount_0f7a4_40 rfl (by decide) rfl ?_
  refine G_iload_n (i := 0) dJ6_bitCount_0f7a4_41 rfl rfl ?_
  refine G_iload_n (i := 0) dJ6_bitCount_0f7a4_42 rfl rfl ?_
  refine G_bipush dJ6_bitCount_0f7a4_43 (by decide) ?_
  refine G_iushr dJ6_bitCount_0f7a4_45 ?_
  refine G_iadd dJ6_bitCount_0f7a4_46 ?_
  refine G_istore_n (i := 0) (ls' := [some (.inl (((b_and (((b_and (v - (b_and (b_ushr v 1) 1431655765)) 858993459) + (b_and (b_ushr (v - (b_and (b_ushr v 1) 1431655765)) 2) 858993459)) + (b_ushr ((b_and (v - (b_and (b_ushr v 1) 1431655765)) 858993459) + (b_and (b_ushr (v - (b_and (b_ushr v 1) 1431655765)) 2) 858993459)) 4)) 252645135) + (b_ushr (b_and (((b_and (v - (b_and (b_ushr v 1) 1431655765)) 858993459) + (b_and (b_ushr (v - (b_and (b_ushr v 1) 1431655765)) 2) 858993459)) + (b_ushr ((b_and (v - (b_and (b_ushr v 1) 1431655765)) 858993459) + (b_and (b_ushr (v - (b_and (b_ushr v 1) 1431655765)) 2) 858993459)) 4)) 252645135) 8)) + (b_ushr ((b_and (((b_and (v - (b_and (b_ushr v 1) 1431655765)) 858993459) + (b_and (b_ushr (v - (b_and (b_ushr v 1) 1431655765)) 2) 858993459)) + (b_ushr ((b_and (v - (b_and (b_ushr v 1) 1431655765)) 858993459) + (b_and (b_ushr (v - (b_and (b_ushr v 1) 1431655765)) 2) 858993459)) 4)) 252645135) + (b_ushr (b_and (((b_and (v - (b_and (b_ushr v 1) 1431655765)) 858993459) + (b_and (b_ushr (v - (b_and (b_ushr v 1) 1431655765)) 2) 858993459)) + (b_ushr ((b_and (v - (b_and (b_ushr v 1) 1431655765)) 858993459) + (b_and (b_ushr (v - (b_and (b_ushr v 1) 1431655765)) 2) 858993459)) 4)) 252645135) 8)) 16)))]) dJ6_bitCount_0f7a4_47 rfl (by decide) rfl ?_
  refine G_iload_n (i := 0) dJ6_bitCount_0f7a4_48 rfl rfl ?_
  refine G_bipush dJ6_bitCount_0f7a4_49 (by decide) ?_
  refine G_iand dJ6_bitCount_0f7a4_51 ?_
  refine G_iretZ rfl dJ6_bitCount_0f7a4_52 ?_
  exact ⟨rfl, rfl⟩

def x_bh (n p : Int) : Int := if p + 1 < n then p + 1 else 0
def x_ah (n p : Int) : Int := if 0 < p then p - 1 else n - 1
theorem x_bh_r {n p : Int} (hp : 0 ≤ p ∧ p < n) : 0 ≤ x_bh n p ∧ x_bh n p < n := by unfold x_bh; split <;> omega
theorem x_ah_r {n p : Int} (hp : 0 ≤ p ∧ p < n) : 0 ≤ x_ah n p ∧ x_ah n p < n := by unfold x_ah; split <;> omega
theorem x_bh_e {n p : Int} (hp : 0 ≤ p ∧ p < n) : x_bh n p = f_aft n p := by unfold x_bh f_aft; split <;> split <;> omega
theorem x_ah_e {n p : Int} (hp : 0 ≤ p ∧ p < n) : x_ah n p = f_ahd n p := by unfold x_ah f_ahd; split <;> split <;> omega
theorem x_behind (d : Nat) (τ : TT) (h : HT) (p n : Int) (r_p : -1 ≤ p ∧ p ≤ 1000) (r_n : 0 ≤ n ∧ n ≤ 1000) : S_ mX11_behind d 0 0 [.inl p, .inl n] τ h (Zi τ fun r h' => r = x_bh n p ∧ h' = h) := by
  refine S_go (k := 0) (ls := [some (.inl p), some (.inl n)]) (by decide) rfl (Nat.le_of_ble_eq_true rfl) rfl ?_
  refine G_iload_n (i := 0) dX11_behind_0 rfl rfl ?_
  refine G_iconst dX11_behind_1 ?_
  refine G_iadd dX11_behind_2 ?_
  refine G_iload_n (i := 1) dX11_behind_3 rfl rfl ?_
  suffices K_3 : ∀ x_2 : Int, x_2 = (if n ≤ (p + 1) then 0 else p + 1) → G_ mX11_behind d 0 0 14 [some (.inl p), some (.inl n)] [.inl x_2] τ h (Zi τ fun r h' => r = x_bh n p ∧ h' = h) by
    refine G_icmp_ge (tgt := 13) dX11_behind_4 (by decide) (by omega) (by omega) (fun c_1 => ?_) (fun c_1 => ?_)
    · refine G_iconst dX11_behind_13 ?_
      exact K_3 _ (if_pos c_1).symm
    · refine G_iload_n (i := 0) dX11_behind_7 rfl rfl ?_
      refine G_iconst dX11_behind_8 ?_
      refine G_iadd dX11_behind_9 ?_
      refine G_goto (tgt := 14) dX11_behind_10 (by decide) ?_
      exact K_3 _ (if_neg c_1).symm
  intro x_2 ex_2
  refine G_iretZ rfl dX11_behind_14 ?_
  exact ⟨by unfold x_bh; omega, rfl⟩

theorem x_ahead (d : Nat) (τ : TT) (h : HT) (p n : Int) (r_p : -1 ≤ p ∧ p ≤ 1000) (r_n : 0 ≤ n ∧ n ≤ 1000) : S_ mX11_ahead d 0 0 [.inl p, .inl n] τ h (Zi τ fun r h' => r = x_ah n p ∧ h' = h) := by
  refine S_go (k := 0) (ls := [some (.inl p), some (.inl n)]) (by decide) rfl (Nat.le_of_ble_eq_true rfl) rfl ?_
  refine G_iload_n (i := 0) dX11_ahead_0 rfl rfl ?_
  suffices K_3 : ∀ x_2 : Int, x_2 = (if p ≤ 0 then n - 1 else p - 1) → G_ mX11_ahead d 0 0 13 [some (.inl p), some (.inl n)] [.inl x_2] τ h (Zi τ fun r h' => r = x_ah n p ∧ h' = h) by
    refine G_if_le (tgt := 10) dX11_ahead_1 (by decide) (by omega) (fun c_1 => ?_) (fun c_1 => ?_)
    · refine G_iload_n (i := 1) dX11_ahead_10 rfl rfl ?_
      refine G_iconst dX11_ahead_11 ?_
      refine G_isub dX11_ahead_12 ?_
      exact K_3 _ (if_pos c_1).symm
    · refine G_iload_n (i := 0) dX11_ahead_4 rfl rfl ?_
      refine G_iconst dX11_ahead_5 ?_
      refine G_isub dX11_ahead_6 ?_
      refine G_goto (tgt := 13) dX11_ahead_7 (by decide) ?_
      exact K_3 _ (if_neg c_1).symm
  intro x_2 ex_2
  refine G_iretZ rfl dX11_ahead_13 ?_
  exact ⟨by unfold x_ah; omega, rfl⟩

theorem x_isColour (d : Nat) (τ : TT) (h : HT) (p : Int) (r_p : -2147483648 ≤ p ∧ p ≤ 2147483647) : S_ mX11_isColour d 0 0 [.inl p] τ h (Zi τ fun r h' => r = (if 0 ≤ p ∧ p ≤ 7 then 1 else 0) ∧ h' = h) := by
  refine S_go (k := 0) (ls := [some (.inl p)]) (by decide) rfl (Nat.le_of_ble_eq_true rfl) rfl ?_
  refine G_iload_n (i := 0) dX11_isColour_0 rfl rfl ?_
  suffices K_3 : ∀ x_2 : Int, x_2 = (if p < 0 then 0 else (if 8 ≤ p then 0 else 1)) → G_ mX11_isColour d 0 0 15 [some (.inl p)] [.inl x_2] τ h (Zi τ fun r h' => r = (if 0 ≤ p ∧ p ≤ 7 then 1 else 0) ∧ h' = h) by
    refine G_if_lt (tgt := 14) dX11_isColour_1 (by decide) (by omega) (fun c_1 => ?_) (fun c_1 => ?_)
    · refine G_iconst dX11_isColour_14 ?_
      exact K_3 _ (if_pos c_1).symm
    · refine G_iload_n (i := 0) dX11_isColour_4 rfl rfl ?_
      refine G_bipush dX11_isColour_5 (by decide) ?_
      refine G_icmp_ge (tgt := 14) dX11_isColour_7 (by decide) (by omega) (by decide) (fun c_4 => ?_) (fun c_4 => ?_)
      · refine G_iconst dX11_isColour_14 ?_
        exact K_3 _ ((if_neg c_1).trans (if_pos c_4)).symm
      · refine G_iconst dX11_isColour_10 ?_
        refine G_goto (tgt := 15) dX11_isColour_11 (by decide) ?_
        exact K_3 _ ((if_neg c_1).trans (if_neg c_4)).symm
  intro x_2 ex_2
  refine G_zretZ rfl (by omega) dX11_isColour_15 ?_
  exact ⟨by omega, rfl⟩

