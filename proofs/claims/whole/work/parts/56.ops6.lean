/-! operations: feed, act, stand -/
theorem by_shr0 (b : Int) : b_shr b 0 = (Int32.ofInt b).toInt / 1 := by
  unfold b_shr
  rw [show (Int32.ofInt 0 &&& 31 : Int32) = 0 from by decide]
  generalize Int32.ofInt b = X
  show (X.toBitVec.sshiftRight' ((0 : Int32).toBitVec.smod 32)).toInt = X.toBitVec.toInt / 1
  rw [show (0 : Int32).toBitVec.smod 32 = 0#32 from by decide]
  show (X.toBitVec.sshiftRight (0#32).toNat).toInt = _
  rw [BitVec.toInt_sshiftRight, Int.shiftRight_eq_div_pow]
  rfl
theorem by_ushr0 (b : Int) : b_and (b_ushr b 0) 255 = (((Int32.ofInt b).toBitVec.toNat / 1 % 256 : Nat) : Int) := by
  unfold b_and b_ushr
  rw [Int32.ofInt_toInt]
  generalize Int32.ofInt b = X
  have e : ((X.toUInt32 >>> ((Int32.ofInt 0).toUInt32 &&& Int32.toUInt32 31)).toInt32 &&& Int32.ofInt 255).toBitVec = (X.toBitVec >>> 0) &&& 255#32 := by
    show (X.toBitVec >>> _) &&& _ = _
    rfl
  have e2 : ((X.toBitVec >>> 0) &&& 255#32).toNat = X.toBitVec.toNat / 1 % 256 := by
    rw [BitVec.toNat_and, BitVec.toNat_ushiftRight, Nat.shiftRight_eq_div_pow]
    exact Nat.and_two_pow_sub_one_eq_mod _ 8
  rw [← Int32.toInt_toBitVec, e, BitVec.toInt_eq_toNat_of_lt (by rw [e2]; omega), e2]
theorem by_shr8 (b : Int) : b_shr b 8 = (Int32.ofInt b).toInt / 256 := by
  unfold b_shr
  rw [show (Int32.ofInt 8 &&& 31 : Int32) = 8 from by decide]
  generalize Int32.ofInt b = X
  show (X.toBitVec.sshiftRight' ((8 : Int32).toBitVec.smod 32)).toInt = X.toBitVec.toInt / 256
  rw [show (8 : Int32).toBitVec.smod 32 = 8#32 from by decide]
  show (X.toBitVec.sshiftRight (8#32).toNat).toInt = _
  rw [BitVec.toInt_sshiftRight, Int.shiftRight_eq_div_pow]
  rfl
theorem by_ushr8 (b : Int) : b_and (b_ushr b 8) 255 = (((Int32.ofInt b).toBitVec.toNat / 256 % 256 : Nat) : Int) := by
  unfold b_and b_ushr
  rw [Int32.ofInt_toInt]
  generalize Int32.ofInt b = X
  have e : ((X.toUInt32 >>> ((Int32.ofInt 8).toUInt32 &&& Int32.toUInt32 31)).toInt32 &&& Int32.ofInt 255).toBitVec = (X.toBitVec >>> 8) &&& 255#32 := by
    show (X.toBitVec >>> _) &&& _ = _
    rfl
  have e2 : ((X.toBitVec >>> 8) &&& 255#32).toNat = X.toBitVec.toNat / 256 % 256 := by
    rw [BitVec.toNat_and, BitVec.toNat_ushiftRight, Nat.shiftRight_eq_div_pow]
    exact Nat.and_two_pow_sub_one_eq_mod _ 8
  rw [← Int32.toInt_toBitVec, e, BitVec.toInt_eq_toNat_of_lt (by rw [e2]; omega), e2]
theorem by_shr16 (b : Int) : b_shr b 16 = (Int32.ofInt b).toInt / 65536 := by
  unfold b_shr
  rw [show (Int32.ofInt 16 &&& 31 : Int32) = 16 from by decide]
  generalize Int32.ofInt b = X
  show (X.toBitVec.sshiftRight' ((16 : Int32).toBitVec.smod 32)).toInt = X.toBitVec.toInt / 65536
  rw [show (16 : Int32).toBitVec.smod 32 = 16#32 from by decide]
  show (X.toBitVec.sshiftRight (16#32).toNat).toInt = _
  rw [BitVec.toInt_sshiftRight, Int.shiftRight_eq_div_pow]
  rfl
theorem by_ushr16 (b : Int) : b_and (b_ushr b 16) 255 = (((Int32.ofInt b).toBitVec.toNat / 65536 % 256 : Nat) : Int) := by
  unfold b_and b_ushr
  rw [Int32.ofInt_toInt]
  generalize Int32.ofInt b = X
  have e : ((X.toUInt32 >>> ((Int32.ofInt 16).toUInt32 &&& Int32.toUInt32 31)).toInt32 &&& Int32.ofInt 255).toBitVec = (X.toBitVec >>> 16) &&& 255#32 := by
    show (X.toBitVec >>> _) &&& _ = _
    rfl
  have e2 : ((X.toBitVec >>> 16) &&& 255#32).toNat = X.toBitVec.toNat / 65536 % 256 := by
    rw [BitVec.toNat_and, BitVec.toNat_ushiftRight, Nat.shiftRight_eq_div_pow]
    exact Nat.and_two_pow_sub_one_eq_mod _ 8
  rw [← Int32.toInt_toBitVec, e, BitVec.toInt_eq_toNat_of_lt (by rw [e2]; omega), e2]
theorem by_shr24 (b : Int) : b_shr b 24 = (Int32.ofInt b).toInt / 16777216 := by
  unfold b_shr
  rw [show (Int32.ofInt 24 &&& 31 : Int32) = 24 from by decide]
  generalize Int32.ofInt b = X
  show (X.toBitVec.sshiftRight' ((24 : Int32).toBitVec.smod 32)).toInt = X.toBitVec.toInt / 16777216
  rw [show (24 : Int32).toBitVec.smod 32 = 24#32 from by decide]
  show (X.toBitVec.sshiftRight (24#32).toNat).toInt = _
  rw [BitVec.toInt_sshiftRight, Int.shiftRight_eq_div_pow]
  rfl
theorem by_ushr24 (b : Int) : b_and (b_ushr b 24) 255 = (((Int32.ofInt b).toBitVec.toNat / 16777216 % 256 : Nat) : Int) := by
  unfold b_and b_ushr
  rw [Int32.ofInt_toInt]
  generalize Int32.ofInt b = X
  have e : ((X.toUInt32 >>> ((Int32.ofInt 24).toUInt32 &&& Int32.toUInt32 31)).toInt32 &&& Int32.ofInt 255).toBitVec = (X.toBitVec >>> 24) &&& 255#32 := by
    show (X.toBitVec >>> _) &&& _ = _
    rfl
  have e2 : ((X.toBitVec >>> 24) &&& 255#32).toNat = X.toBitVec.toNat / 16777216 % 256 := by
    rw [BitVec.toNat_and, BitVec.toNat_ushiftRight, Nat.shiftRight_eq_div_pow]
    exact Nat.and_two_pow_sub_one_eq_mod _ 8
  rw [← Int32.toInt_toBitVec, e, BitVec.toInt_eq_toNat_of_lt (by rw [e2]; omega), e2]
theorem b_i2b_m (v : Int) (hv : -2147483648 ≤ v ∧ v ≤ 2147483647) : b_i2b v % 256 = v % 256 ∧ -128 ≤ b_i2b v ∧ b_i2b v ≤ 127 := by
  have e : b_i2b v = v.bmod (2 ^ 8) := by
    unfold b_i2b
    rw [Int8.toInt_toInt32, Int32.toInt_toInt8, gb_ofInt hv]
  rw [e]
  refine ⟨Int.bmod_emod, ?_, ?_⟩
  · have := Int.le_bmod (x := v) (m := 2 ^ 8) (by decide); omega
  · have := Int.bmod_lt (x := v) (m := 2 ^ 8) (by decide); omega
theorem byte_e (b : Int) (j : Nat) (hj : j < 4) : b_and (b_ushr b (8 * (j : Int))) 255 = b_i2b (b_shr b (8 * (j : Int))) % 256 ∧ (0 ≤ b_and (b_ushr b (8 * (j : Int))) 255 ∧ b_and (b_ushr b (8 * (j : Int))) 255 ≤ 255) := by
  have r := b_i2b_m (b_shr b (8 * (j : Int))) (b_shr_r _ _)
  rw [r.1]
  have hx : (Int32.ofInt b).toInt = (Int32.ofInt b).toBitVec.toNat ∨ (Int32.ofInt b).toInt = ((Int32.ofInt b).toBitVec.toNat : Int) - 4294967296 := by
    have := BitVec.toInt_eq_toNat_cond (Int32.ofInt b).toBitVec
    rw [Int32.toInt_toBitVec] at this
    split at this
    · exact Or.inl this
    · exact Or.inr (by omega)
  rcases (show j = 0 ∨ j = 1 ∨ j = 2 ∨ j = 3 by omega) with rfl | rfl | rfl | rfl
  · rw [show (8 * ((0 : Nat) : Int)) = 0 from rfl, by_shr0, by_ushr0]
    generalize (Int32.ofInt b).toInt = I at *
    generalize (Int32.ofInt b).toBitVec.toNat = N at *
    omega
  · rw [show (8 * ((1 : Nat) : Int)) = 8 from rfl, by_shr8, by_ushr8]
    generalize (Int32.ofInt b).toInt = I at *
    generalize (Int32.ofInt b).toBitVec.toNat = N at *
    omega
  · rw [show (8 * ((2 : Nat) : Int)) = 16 from rfl, by_shr16, by_ushr16]
    generalize (Int32.ofInt b).toInt = I at *
    generalize (Int32.ofInt b).toBitVec.toNat = N at *
    omega
  · rw [show (8 * ((3 : Nat) : Int)) = 24 from rfl, by_shr24, by_ushr24]
    generalize (Int32.ofInt b).toInt = I at *
    generalize (Int32.ofInt b).toBitVec.toNat = N at *
    omega
def x_fdB (b : Int) (e k q : Nat) : Int := b_and (b_ushr b (8 * ((e + k - 1 - q : Nat) : Int))) 255
def x_fdH (h : HT) (b : Int) (e k i : Nat) : HT := hs_ (hf_ h 41 e (e + i) (x_fdB b e k)) 39 3 ((e : Int) + i)
theorem x_fdH_s {h : HT} {b : Int} {e k i : Nat} (hi : i < k) : hs_ (hs_ (x_fdH h b e k i) 41 (e + i) (b_and (b_ushr b (8 * ((k : Int) - i - 1))) 255)) 39 3 ((e : Int) + i + 1) = x_fdH h b e k (i + 1) := by
  unfold x_fdH
  have e1 : (8 * ((k : Int) - i - 1)) = 8 * ((e + k - 1 - (e + i) : Nat) : Int) := by omega
  rw [show b_and (b_ushr b (8 * ((k : Int) - i - 1))) 255 = x_fdB b e k (e + i) from by unfold x_fdB; rw [e1]]
  funext c j
  simp only [hs_, hf_]
  grind
def x_feed (h : HT) (b k : Int) : Int × HT := if ¬ (0 ≤ k ∧ k ≤ 4) then (-2, h) else if 80 < h 39 3 + k then (-4, h) else (h 39 3 + k, x_fdH h b (h 39 3).toNat k.toNat k.toNat)
theorem x_take_L (d : Nat) (τ : TT) (h : HT) (hT : TK τ) (b : Int) (e k : Nat) (hk : k ≤ 4) (hek : e + k ≤ 80) : ∀ (n_ : Nat) (i : Nat), k - i < n_ → i ≤ k → G_ mX7_take d 0 0 17 [some (.inr (some 39)), some (.inl b), some (.inl (k : Int)), some (.inl ((k : Int) - i - 1))] [] τ (x_fdH h b e k i) (Zi τ fun v h' => v = 1 ∧ h' = x_fdH h b e k k) := by
  intro n_
  induction n_ with
  | zero => intro i hm_; exact absurd hm_ (Nat.not_lt_zero _)
  | succ n_ ih =>
    intro i hm_ hi
    refine G_iload_n (i := 3) dX7_take_17 rfl rfl ?_
    refine G_if_lt (tgt := 56) dX7_take_18 (by decide) (by omega) (fun c_1 => ?_) (fun c_1 => ?_)
    · refine G_iconst dX7_take_56 ?_
      refine G_zretZ rfl (by decide) dX7_take_57 ?_
      obtain rfl : i = k := by omega
      exact ⟨rfl, rfl⟩
    · refine G_aload_n (i := 0) dX7_take_21 rfl rfl ?_
      refine G_getR fX7_21 rfl dX7_take_22 (o39 hT) (r39_2 hT) ?_
      refine G_aload_n (i := 0) dX7_take_25 rfl rfl ?_
      refine G_getI (v := (e : Int) + i) fX7_25 rfl dX7_take_26 (o39 hT) (hs_eq) ?_
      refine G_iload_n (i := 1) dX7_take_29 rfl rfl ?_
      refine G_bipush dX7_take_30 (by decide) ?_
      refine G_iload_n (i := 3) dX7_take_32 rfl rfl ?_
      refine G_imul dX7_take_33 ?_
      refine G_iushr dX7_take_34 ?_
      refine G_sipush dX7_take_35 (by decide) ?_
      refine G_iand dX7_take_38 ?_
      refine G_iastk (((e : Int) + i).toNat) dX7_take_39 (o41 hT) (by omega) rfl ?_
      refine G_aload_n (i := 0) dX7_take_40 rfl rfl ?_
      refine G_dup dX7_take_41 ?_
      refine G_getI (v := (e : Int) + i) fX7_25 rfl dX7_take_42 (o39 hT) ((hs_na (by decide)).trans (hs_eq)) ?_
      refine G_iconst dX7_take_45 ?_
      refine G_iadd dX7_take_46 ?_
      refine G_putI fX7_25 dX7_take_47 (o39 hT) ?_
      refine G_iinc (ls' := [some (.inr (some 39)), some (.inl b), some (.inl (k : Int)), some (.inl (((k : Int) - i - 1) + (-1)))]) dX7_take_50 (by decide) rfl rfl ?_
      refine G_goto (tgt := 17) dX7_take_53 (by decide) ?_
      rw [show ((e : Int) + i).toNat = e + i by omega, x_fdH_s (by omega)]
      rw [show (k : Int) - i - 1 + (-1) = (k : Int) - ((i + 1 : Nat) : Int) - 1 by omega]
      exact ih (i + 1) (by omega) (by omega)

theorem x_takeR (d : Nat) (τ : TT) (h : HT) (hT : TK τ) (b k : Int) (hk : 0 ≤ k ∧ k ≤ 4) (he : 0 ≤ h 39 3 ∧ h 39 3 ≤ 80) : S_ mX7_take d 0 0 [.inr (some 39), .inl b, .inl k] τ h (Zi τ fun v h' => (80 < h 39 3 + k → v = 0 ∧ h' = h) ∧ (¬ 80 < h 39 3 + k → v = 1 ∧ h' = x_fdH h b (h 39 3).toNat k.toNat k.toNat)) := by
  refine S_go (k := 1) (ls := [some (.inr (some 39)), some (.inl b), some (.inl k), none]) (by decide) rfl (Nat.le_of_ble_eq_true rfl) rfl ?_
  refine G_aload_n (i := 0) dX7_take_0 rfl rfl ?_
  refine G_getI (v := h 39 3) fX7_25 rfl dX7_take_1 (o39 hT) rfl ?_
  refine G_iload_n (i := 2) dX7_take_4 rfl rfl ?_
  refine G_iadd dX7_take_5 ?_
  refine G_bipush dX7_take_6 (by decide) ?_
  refine G_icmp_le (tgt := 13) dX7_take_8 (by decide) (by omega) (by decide) (fun c_1 => ?_) (fun c_1 => ?_)
  · refine G_iload_n (i := 2) dX7_take_13 rfl rfl ?_
    refine G_iconst dX7_take_14 ?_
    refine G_isub dX7_take_15 ?_
    refine G_istore_n (i := 3) (ls' := [some (.inr (some 39)), some (.inl b), some (.inl k), some (.inl (k - 1))]) dX7_take_16 rfl (by decide) rfl ?_
    obtain ⟨K, rfl⟩ : ∃ K : Nat, k = (K : Int) := ⟨k.toNat, by omega⟩
    obtain ⟨e, he⟩ : ∃ e : Nat, h 39 3 = (e : Int) := ⟨(h 39 3).toNat, by omega⟩
    have := x_take_L d τ h hT b e K (by omega) (by omega) _ 0 (Nat.lt_succ_self _) (by omega)
    have e0 : x_fdH h b e K 0 = h := by funext c j; simp only [x_fdH, hs_, hf_]; grind
    rw [e0] at this
    rw [show (K : Int) - ((0 : Nat) : Int) - 1 = (K : Int) - 1 by omega] at this
    refine G_mono ?_ this
    rintro r τ' h' ⟨q1, v, q2, rfl, rfl⟩
    refine ⟨q1, _, q2, fun q => by omega, fun _ => ⟨rfl, ?_⟩⟩
    rw [he]; rfl
  · refine G_iconst dX7_take_11 ?_
    refine G_zretZ rfl (by decide) dX7_take_12 ?_
    exact ⟨fun _ => ⟨rfl, rfl⟩, fun q => by omega⟩

theorem x_feedM (d : Nat) (τ : TT) (h : HT) (hT : TK τ) (x : MI h) (y : XR τ h) (b k : Int) (r_b : -2147483648 ≤ b ∧ b ≤ 2147483647) (r_k : -2147483648 ≤ k ∧ k ≤ 2147483647) : S_ mX11_feed (d + 1) 0 0 [.inr (some 0), .inl b, .inl k] τ h (Zi τ fun v h' => v = (x_feed h b k).1 ∧ h' = (x_feed h b k).2) := by
  have n9 := x.n9
  have d1 := x.d1
  have n_ := x.n_
  have fn := y.fn_
  have da := y.da_
  have cn := y.cn_
  have r_r_ := x.r_
  have s_s_ := x.s_
  have dc := y.dc_
  have pc := y.pc_
  have pp := x.p_
  have fgc := y.fg_.1
  have f10 := x.f_
  have ra := y.ra_
  have a100 := x.a_
  have pic := y.pi_
  have t40 := x.t_
  have txx := y.tx_
  have e80 := x.e_
  refine S_go (k := 0) (ls := [some (.inr (some 0)), some (.inl b), some (.inl k)]) (by decide) rfl (Nat.le_of_ble_eq_true rfl) rfl ?_
  refine G_iload_n (i := 2) dX11_feed_0 rfl rfl ?_
  refine G_if_lt (tgt := 9) dX11_feed_1 (by decide) (by omega) (fun c_1 => ?_) (fun c_1 => ?_)
  · refine G_bipush dX11_feed_9 (by decide) ?_
    refine G_iretZ rfl dX11_feed_11 ?_
    unfold x_feed; (repeat (first | rw [if_pos (by omega)] | rw [if_neg (by omega)])); exact ⟨rfl, rfl⟩
  · refine G_iload_n (i := 2) dX11_feed_4 rfl rfl ?_
    refine G_iconst dX11_feed_5 ?_
    refine G_icmp_le (tgt := 12) dX11_feed_6 (by decide) (by omega) (by decide) (fun c_2 => ?_) (fun c_2 => ?_)
    · refine G_aload_n (i := 0) dX11_feed_12 rfl rfl ?_
      refine G_getR fX11_79 rfl dX11_feed_13 (o0 hT) (r0_13 hT) ?_
      refine G_iload_n (i := 1) dX11_feed_16 rfl rfl ?_
      refine G_iload_n (i := 2) dX11_feed_17 rfl rfl ?_
      refine G_cVi (as := [.inl b, .inl k]) qX11_246 (x_takeR d τ h hT b k (by omega) (by omega)) rfl rfl (Nat.le_of_ble_eq_true rfl) (o39 hT) dX11_feed_18 (fun v1 h' e' => ?_)
      obtain ⟨t1, t2⟩ := e'
      by_cases ht : 80 < h 39 3 + k
      · obtain ⟨rfl, eh⟩ := t1 ht; rw [eh]; clear eh
        refine G_if_eq (tgt := 34) dX11_feed_21 (by decide) (by decide) (fun _ => ?_) (fun q => absurd q (by decide))
        refine G_bipush dX11_feed_34 (by decide) ?_
        refine G_iretZ rfl dX11_feed_36 ?_
        unfold x_feed; (repeat (first | rw [if_pos (by omega)] | rw [if_neg (by omega)])); exact ⟨rfl, rfl⟩
      · obtain ⟨rfl, rfl⟩ := t2 ht
        refine G_if_eq (tgt := 34) dX11_feed_21 (by decide) (by decide) (fun q => absurd q (by decide)) (fun _ => ?_)
        refine G_aload_n (i := 0) dX11_feed_24 rfl rfl ?_
        refine G_getR fX11_79 rfl dX11_feed_25 (o0 hT) (r0_13 hT) ?_
        refine G_getI (v := ((h 39 3).toNat : Int) + ((k.toNat : Nat) : Int)) fX11_249 rfl dX11_feed_28 (o39 hT) (hs_eq) ?_
        refine G_goto (tgt := 36) dX11_feed_31 (by decide) ?_
        refine G_iretZ rfl dX11_feed_36 ?_
        unfold x_feed; (repeat (first | rw [if_pos (by omega)] | rw [if_neg (by omega)])); exact ⟨by omega, rfl⟩
    · refine G_bipush dX11_feed_9 (by decide) ?_
      refine G_iretZ rfl dX11_feed_11 ?_
      unfold x_feed; (repeat (first | rw [if_pos (by omega)] | rw [if_neg (by omega)])); exact ⟨rfl, rfl⟩

theorem SIM_feed {τ : TT} {h : HT} (s : SIM τ h) {b : Int} {e k : Nat} (he : h 81 27 = e) (hk : k ≤ 4) (hek : e + k ≤ 80) : SIM τ (hs_ (hf_ (hs_ (hf_ h 41 e (e + k) (x_fdB b e k)) 39 3 ((e : Int) + k)) 104 e (e + k) (f_fdB b e k)) 81 27 ((e : Int) + k)) := by
  obtain ⟨hT, x, y⟩ := s
  generalize hH : (hs_ (hf_ (hs_ (hf_ h 41 e (e + k) (x_fdB b e k)) 39 3 ((e : Int) + k)) 104 e (e + k) (f_fdB b e k)) 81 27 ((e : Int) + k)) = H
  have o81_0 : H 81 0 = h 81 0 := by rw [← hH]; simp only [hs_, hf_]; (repeat (first | rfl | rw [if_neg (by omega)]))
  have o81_1 : H 81 1 = h 81 1 := by rw [← hH]; simp only [hs_, hf_]; (repeat (first | rfl | rw [if_neg (by omega)]))
  have o81_11 : H 81 11 = h 81 11 := by rw [← hH]; simp only [hs_, hf_]; (repeat (first | rfl | rw [if_neg (by omega)]))
  have o81_14 : H 81 14 = h 81 14 := by rw [← hH]; simp only [hs_, hf_]; (repeat (first | rfl | rw [if_neg (by omega)]))
  have o81_15 : H 81 15 = h 81 15 := by rw [← hH]; simp only [hs_, hf_]; (repeat (first | rfl | rw [if_neg (by omega)]))
  have o81_20 : H 81 20 = h 81 20 := by rw [← hH]; simp only [hs_, hf_]; (repeat (first | rfl | rw [if_neg (by omega)]))
  have o81_26 : H 81 26 = h 81 26 := by rw [← hH]; simp only [hs_, hf_]; (repeat (first | rfl | rw [if_neg (by omega)]))
  have o81_55 : H 81 55 = h 81 55 := by rw [← hH]; simp only [hs_, hf_]; (repeat (first | rfl | rw [if_neg (by omega)]))
  have q0_1 : H 0 1 = h 0 1 := by rw [← hH]; simp only [hs_, hf_]; (repeat (first | rfl | rw [if_neg (by omega)]))
  have q0_6 : H 0 6 = h 0 6 := by rw [← hH]; simp only [hs_, hf_]; (repeat (first | rfl | rw [if_neg (by omega)]))
  have q2_1 : H 2 1 = h 2 1 := by rw [← hH]; simp only [hs_, hf_]; (repeat (first | rfl | rw [if_neg (by omega)]))
  have q6_0 : H 6 0 = h 6 0 := by rw [← hH]; simp only [hs_, hf_]; (repeat (first | rfl | rw [if_neg (by omega)]))
  have q6_1 : H 6 1 = h 6 1 := by rw [← hH]; simp only [hs_, hf_]; (repeat (first | rfl | rw [if_neg (by omega)]))
  have q6_2 : H 6 2 = h 6 2 := by rw [← hH]; simp only [hs_, hf_]; (repeat (first | rfl | rw [if_neg (by omega)]))
  have q11_1 : H 11 1 = h 11 1 := by rw [← hH]; simp only [hs_, hf_]; (repeat (first | rfl | rw [if_neg (by omega)]))
  have q13_0 : H 13 0 = h 13 0 := by rw [← hH]; simp only [hs_, hf_]; (repeat (first | rfl | rw [if_neg (by omega)]))
  have q13_1 : H 13 1 = h 13 1 := by rw [← hH]; simp only [hs_, hf_]; (repeat (first | rfl | rw [if_neg (by omega)]))
  have q18_3 : H 18 3 = h 18 3 := by rw [← hH]; simp only [hs_, hf_]; (repeat (first | rfl | rw [if_neg (by omega)]))
  have q39_1 : H 39 1 = h 39 1 := by rw [← hH]; simp only [hs_, hf_]; (repeat (first | rfl | rw [if_neg (by omega)]))
  have o82 : ∀ k, H 82 k = h 82 k := fun k => by rw [← hH]; simp only [hs_, hf_]; (repeat (first | rfl | rw [if_neg (by omega)]))
  have o83 : ∀ k, H 83 k = h 83 k := fun k => by rw [← hH]; simp only [hs_, hf_]; (repeat (first | rfl | rw [if_neg (by omega)]))
  have o84 : ∀ k, H 84 k = h 84 k := fun k => by rw [← hH]; simp only [hs_, hf_]; (repeat (first | rfl | rw [if_neg (by omega)]))
  have o85 : ∀ k, H 85 k = h 85 k := fun k => by rw [← hH]; simp only [hs_, hf_]; (repeat (first | rfl | rw [if_neg (by omega)]))
  have o86 : ∀ k, H 86 k = h 86 k := fun k => by rw [← hH]; simp only [hs_, hf_]; (repeat (first | rfl | rw [if_neg (by omega)]))
  have o87 : ∀ k, H 87 k = h 87 k := fun k => by rw [← hH]; simp only [hs_, hf_]; (repeat (first | rfl | rw [if_neg (by omega)]))
  have o88 : ∀ k, H 88 k = h 88 k := fun k => by rw [← hH]; simp only [hs_, hf_]; (repeat (first | rfl | rw [if_neg (by omega)]))
  have o89 : ∀ k, H 89 k = h 89 k := fun k => by rw [← hH]; simp only [hs_, hf_]; (repeat (first | rfl | rw [if_neg (by omega)]))
  have o90 : ∀ k, H 90 k = h 90 k := fun k => by rw [← hH]; simp only [hs_, hf_]; (repeat (first | rfl | rw [if_neg (by omega)]))
  have o93 : ∀ k, H 93 k = h 93 k := fun k => by rw [← hH]; simp only [hs_, hf_]; (repeat (first | rfl | rw [if_neg (by omega)]))
  have o94 : ∀ k, H 94 k = h 94 k := fun k => by rw [← hH]; simp only [hs_, hf_]; (repeat (first | rfl | rw [if_neg (by omega)]))
  have o95 : ∀ k, H 95 k = h 95 k := fun k => by rw [← hH]; simp only [hs_, hf_]; (repeat (first | rfl | rw [if_neg (by omega)]))
  have o96 : ∀ k, H 96 k = h 96 k := fun k => by rw [← hH]; simp only [hs_, hf_]; (repeat (first | rfl | rw [if_neg (by omega)]))
  have o97 : ∀ k, H 97 k = h 97 k := fun k => by rw [← hH]; simp only [hs_, hf_]; (repeat (first | rfl | rw [if_neg (by omega)]))
  have o98 : ∀ k, H 98 k = h 98 k := fun k => by rw [← hH]; simp only [hs_, hf_]; (repeat (first | rfl | rw [if_neg (by omega)]))
  have o99 : ∀ k, H 99 k = h 99 k := fun k => by rw [← hH]; simp only [hs_, hf_]; (repeat (first | rfl | rw [if_neg (by omega)]))
  have o102 : ∀ k, H 102 k = h 102 k := fun k => by rw [← hH]; simp only [hs_, hf_]; (repeat (first | rfl | rw [if_neg (by omega)]))
  have o103 : ∀ k, H 103 k = h 103 k := fun k => by rw [← hH]; simp only [hs_, hf_]; (repeat (first | rfl | rw [if_neg (by omega)]))
  have o122 : ∀ k, H 122 k = h 122 k := fun k => by rw [← hH]; simp only [hs_, hf_]; (repeat (first | rfl | rw [if_neg (by omega)]))
  have o123 : ∀ k, H 123 k = h 123 k := fun k => by rw [← hH]; simp only [hs_, hf_]; (repeat (first | rfl | rw [if_neg (by omega)]))
  have o124 : ∀ k, H 124 k = h 124 k := fun k => by rw [← hH]; simp only [hs_, hf_]; (repeat (first | rfl | rw [if_neg (by omega)]))
  have o3 : ∀ k, H 3 k = h 3 k := fun k => by rw [← hH]; simp only [hs_, hf_]; (repeat (first | rfl | rw [if_neg (by omega)]))
  have o4 : ∀ k, H 4 k = h 4 k := fun k => by rw [← hH]; simp only [hs_, hf_]; (repeat (first | rfl | rw [if_neg (by omega)]))
  have o5 : ∀ k, H 5 k = h 5 k := fun k => by rw [← hH]; simp only [hs_, hf_]; (repeat (first | rfl | rw [if_neg (by omega)]))
  have o7 : ∀ k, H 7 k = h 7 k := fun k => by rw [← hH]; simp only [hs_, hf_]; (repeat (first | rfl | rw [if_neg (by omega)]))
  have o8 : ∀ k, H 8 k = h 8 k := fun k => by rw [← hH]; simp only [hs_, hf_]; (repeat (first | rfl | rw [if_neg (by omega)]))
  have o9 : ∀ k, H 9 k = h 9 k := fun k => by rw [← hH]; simp only [hs_, hf_]; (repeat (first | rfl | rw [if_neg (by omega)]))
  have o12 : ∀ k, H 12 k = h 12 k := fun k => by rw [← hH]; simp only [hs_, hf_]; (repeat (first | rfl | rw [if_neg (by omega)]))
  have o14 : ∀ k, H 14 k = h 14 k := fun k => by rw [← hH]; simp only [hs_, hf_]; (repeat (first | rfl | rw [if_neg (by omega)]))
  have o15 : ∀ k, H 15 k = h 15 k := fun k => by rw [← hH]; simp only [hs_, hf_]; (repeat (first | rfl | rw [if_neg (by omega)]))
  have o16 : ∀ k, H 16 k = h 16 k := fun k => by rw [← hH]; simp only [hs_, hf_]; (repeat (first | rfl | rw [if_neg (by omega)]))
  have o17 : ∀ k, H 17 k = h 17 k := fun k => by rw [← hH]; simp only [hs_, hf_]; (repeat (first | rfl | rw [if_neg (by omega)]))
  have o19 : ∀ k, H 19 k = h 19 k := fun k => by rw [← hH]; simp only [hs_, hf_]; (repeat (first | rfl | rw [if_neg (by omega)]))
  have o20 : ∀ k, H 20 k = h 20 k := fun k => by rw [← hH]; simp only [hs_, hf_]; (repeat (first | rfl | rw [if_neg (by omega)]))
  have o21 : ∀ k, H 21 k = h 21 k := fun k => by rw [← hH]; simp only [hs_, hf_]; (repeat (first | rfl | rw [if_neg (by omega)]))
  have o121 : ∀ k, H 121 k = h 121 k := fun k => by rw [← hH]; simp only [hs_, hf_]; (repeat (first | rfl | rw [if_neg (by omega)]))
  have o100 : ∀ k, H 100 k = h 100 k := fun k => by rw [← hH]; simp only [hs_, hf_]; (repeat (first | rfl | rw [if_neg (by omega)]))
  have hbig : ∀ a k : Nat, 126 ≤ a → H a k = h a k := fun a k ha => by rw [← hH]; simp only [hs_, hf_]; (repeat (first | rfl | rw [if_neg (by omega)]))
  have hst : ∀ a k : Nat, 24 ≤ a → a ≤ 27 → H a k = h a k := fun a k ha hb => by rw [← hH]; simp only [hs_, hf_]; (repeat (first | rfl | rw [if_neg (by omega)]))
  have htp : ∀ a k : Nat, 69 ≤ a → a ≤ 80 → H a k = h a k := fun a k ha hb => by rw [← hH]; simp only [hs_, hf_]; (repeat (first | rfl | rw [if_neg (by omega)]))
  refine ⟨hT, ⟨?_, ?_, ?_, ?_, ?_, ?_, ?_, ?_, ?_, ?_, ?_, ?_, ?_, ?_, ?_, ?_, ?_, ?_, ?_, ?_, ?_, ?_, ?_, ?_, ?_, ?_, ?_, ?_, ?_, ?_, ?_, ?_⟩, ⟨?_, ?_, ?_, ?_, ?_, ?_, ?_, ?_, ?_, ?_, ?_, ?_, ?_, ?_, ?_, ?_, ?_, ?_, ?_, ?_, ?_, ?_, ?_, ?_, ?_, ?_, ?_, ?_, ?_⟩⟩
  · simp only [o81_0]; exact x.p_
  · simp only [o81_1]; exact x.n_
  · simp only [o81_1, o81_11]; exact x.d_
  · simp only [o81_1, o81_14]; exact x.s_
  · simp only [o81_1, o81_15]; exact x.r_
  · simp only [o81_20]; exact x.t_
  · simp only [o81_26]; exact x.f_
  · rw [← hH, hs_eq]; omega
  · simp only [o81_55]; exact x.a_
  · simp only [o82]; exact x.ki_
  · simp only [o83]; exact x.re_
  · simp only [o84]; exact x.pa_
  · simp only [o85]; exact x.wh_
  · simp only [o81_1, o86]; exact x.ha_
  · simp only [o81_1, o86]; exact x.hi_
  · simp only [o87]; exact x.co_
  · simp only [o88]; exact x.le_
  · simp only [o89]; exact x.be_
  · simp only [o90]; exact x.cc_
  · simp only [o81_1, o81_14, o93]; exact x.st_
  · simp only [o94]; exact x.mk_
  · simp only [o95]; exact x.cr_
  · simp only [o96]; exact x.cm_
  · simp only [o97]; exact x.t7_
  · simp only [o98]; exact x.t8_
  · simp only [o99]; exact x.t9_
  · simp only [o81_26, o102]; exact x.ma_
  · simp only [o81_26, o102, o103]; exact x.to_
  · intro q hq; rw [← hH]; have := x.tx_ q hq; simp only [hs_, hf_]; by_cases z : e ≤ q ∧ q < e + k; (simp [z]; exact (b_i2b_m _ (b_shr_r _ _)).2); (simp [z] <;> omega)
  · simp only [o122]; exact x.so_
  · simp only [o123]; exact x.si_
  · simp only [o124]; exact x.it_
  · simp only [o81_0, q0_1]; exact y.pc_
  · intro k hk; rw [o81_0] at hk; obtain ⟨o, p1, p2, p3, p4, p5, p6, p7⟩ := y.pe_ k hk; exact ⟨o, p1, p2, p3, by rw [hbig o 0 p2]; exact p4, by rw [hbig o 1 p2, o82]; exact p5, by rw [hbig o 2 p2, o83]; exact p6, by rw [hbig o 3 p2, o84]; exact p7⟩
  · simp only [o81_55, q2_1]; exact y.ra_
  · simp only [o3, o121]; exact y.tr_
  · simp only [o81_1, o85, o86, o4]; exact y.wh_
  · simp only [o4]; exact y.wr_
  · simp only [o87, o5]; exact y.co_
  · simp only [o81_1, o81_14, o81_15, q6_0, q6_1, q6_2]; exact y.fn_
  · simp only [o81_1, o86, o7]; exact y.or_
  · simp only [o81_1, o88, o8]; exact y.le_
  · simp only [o81_1, o94, o9]; exact y.mk_
  · simp only [o81_1, o81_11, q0_6]; exact y.da_
  · simp only [o81_1, o81_14, q11_1]; exact y.dc_
  · simp only [o81_1, o81_14, o93, o12]; exact y.dd_
  · simp only [o81_1, o81_15, q13_0, q13_1]; exact y.cn_
  · intro r p hr hp; rw [o81_15] at hr; rw [o81_1] at hp; rw [o14, o15, o16, o95, o96, f_top_k o81_1 o95 o96]; exact y.cl_ r p hr hp
  · simp only [o14, o15]; exact y.cr_
  · simp only [o17]; exact y.cc_
  · simp only [o81_1, o81_11, o81_15, o90, o17]; exact y.ce_
  · simp only [o81_20, q18_3, o97, o98, o99, o19, o20, o21]; exact y.pi_
  · intro hd; rw [o81_11] at hd; rw [o81_1, show t_0 H = t_0 h from by unfold t_0; rw [show H 89 = h 89 from funext o89]]; exact (y.sf_ hd).fr (fun b j b1 b2 => hst b j (by omega) (by omega))
  · rw [o81_26]; exact (y.fg_.fr q39_1 hbig).cg (fun f hf => figL_c (o102 f) (fun k hk => o103 _))
  · rw [← hH]
    obtain ⟨t1, t2, t3⟩ := y.tx_
    refine ⟨by rw [hs_na (by decide), hf_na (by decide), hs_eq, hs_eq], fun q hq => ?_, fun q hq => ?_⟩
    · have := t2 q hq
      rw [hs_na (by decide), hf_na (by decide), hs_na (by decide)]
      by_cases z : e ≤ q ∧ q < e + k
      · rw [hf_in z]; exact (byte_e b (e + k - 1 - q) (by omega)).2
      · rw [hf_ni z]; exact this
    · rw [hs_eq] at hq
      rw [hs_na (by decide), hf_na (by decide), hs_na (by decide), hs_na (by decide)]
      by_cases z : e ≤ q ∧ q < e + k
      · rw [hf_in z, hf_in z]; exact (byte_e b (e + k - 1 - q) (by omega)).1
      · rw [hf_ni z, hf_ni z, hs_na (by decide), hf_na (by decide)]; exact t3 q (by omega)
  · intro t ht; have := y.tp_ t ht; rw [htp (69 + 2 * t) 0 (by omega) (by omega), htp (69 + 2 * t) 1 (by omega) (by omega), o122, o123]; refine ⟨this.1, this.2.1, fun i hi => ?_⟩; rw [htp (70 + 2 * t) i (by omega) (by omega), o124]; exact this.2.2 i hi
  · simp only [o81_1, o81_11, o86]; exact y.nd_
  · simp only [o122, o123]; exact y.sn_
  · intro r p hr hp; rw [o81_15] at hr; rw [o81_1] at hp ⊢; rw [o95]; exact y.ok_ r p hr hp
  · simp only [o100]; exact y.gs_
  · rw [o81_0, o81_26]; exact y.sz_
theorem op_feed {τ : TT} {h : HT} (s : SIM τ h) (b k : Int) (r_b : -2147483648 ≤ b ∧ b ≤ 2147483647) (r_k : -2147483648 ≤ k ∧ k ≤ 2147483647) : OPS mX11_feed mX12_feed 20 0 0 [.inl b, .inl k] τ h := by
  have s0 := s
  obtain ⟨hT, x, y⟩ := s
  have n9 := x.n9
  have d1 := x.d1
  have n_ := x.n_
  have fn := y.fn_
  have da := y.da_
  have tx1 := y.tx_.1
  have e80 := x.e_
  refine OPS_f x (x_feed h b k) (fun g => f_feed g b k) (fun d => x_feedM (d + 19) τ h hT x y b k r_b r_k) (fun a i z1 z2 => by unfold x_feed; (repeat (first | rfl | (apply (apply_ite (fun z : Int × HT => z.2 a i) _ _ _).trans; split))); all_goals (simp only [x_fdH, hs_, hf_]; (repeat (first | rfl | rw [if_neg (by omega)])))) (fun d x1 => m_feed (d + 19) τ _ hT b k r_k x1.e_) ?_
  show (f_feed (x_feed h b k).2 b k).1 = (x_feed h b k).1 ∧ SIM τ (f_feed (x_feed h b k).2 b k).2
  unfold x_feed
  by_cases g1 : ¬ (0 ≤ k ∧ k ≤ 4)
  · rw [if_pos g1]; show (f_feed h b k).1 = _ ∧ SIM τ (f_feed h b k).2; unfold f_feed; rw [if_pos (by exact g1)]; exact ⟨rfl, s0⟩
  rw [if_neg g1]
  by_cases g2 : 80 < h 39 3 + k
  · rw [if_pos g2]; show (f_feed h b k).1 = _ ∧ SIM τ (f_feed h b k).2; unfold f_feed; rw [if_neg (by exact g1), if_pos (by omega)]; exact ⟨rfl, s0⟩
  rw [if_neg g2]
  obtain ⟨K, rfl⟩ : ∃ K : Nat, k = (K : Int) := ⟨k.toNat, by omega⟩
  obtain ⟨e, he⟩ : ∃ e : Nat, h 81 27 = (e : Int) := ⟨(h 81 27).toNat, by omega⟩
  have he2 : h 39 3 = (e : Int) := by omega
  rw [he2]
  show (f_feed (x_fdH h b e K K) b K).1 = (e : Int) + K ∧ SIM τ (f_feed (x_fdH h b e K K) b K).2
  have k1 : x_fdH h b e K K 81 27 = (e : Int) := ((hs_na (by decide)).trans (hf_na (by decide))).trans he
  unfold f_feed
  rw [if_neg (by omega), if_neg (by rw [k1]; omega), k1]
  exact ⟨rfl, SIM_feed s0 he (by omega) (by omega)⟩
theorem x_actM (d : Nat) (τ : TT) (h : HT) (hT : TK τ) (x : MI h) (y : XR τ h) (i a w : Int) (r_i : -2147483648 ≤ i ∧ i ≤ 2147483647) (r_a : -2147483648 ≤ a ∧ a ≤ 2147483647) (r_w : -2147483648 ≤ w ∧ w ≤ 2147483647) : S_ mX11_act (d + 13) 0 0 [.inr (some 0), .inl i, .inl a, .inl w] τ h (Zi τ fun v h' => v = f_actV h i a w ∧ h' = x_logs (hs_ h 2 1 0) (f_actL h i a)) := by
  have n9 := x.n9
  have d1 := x.d1
  have n_ := x.n_
  have fn := y.fn_
  have da := y.da_
  have cn := y.cn_
  have r_r_ := x.r_
  have s_s_ := x.s_
  have dc := y.dc_
  have pc := y.pc_
  have pp := x.p_
  have fgc := y.fg_.1
  have f10 := x.f_
  have ra := y.ra_
  have a100 := x.a_
  have pic := y.pi_
  have t40 := x.t_
  have txx := y.tx_
  have e80 := x.e_
  refine S_go (k := 1) (ls := [some (.inr (some 0)), some (.inl i), some (.inl a), some (.inl w), none]) (by decide) rfl (Nat.le_of_ble_eq_true rfl) rfl ?_
  refine G_aload_n (i := 0) dX11_act_0 rfl rfl ?_
  refine G_iload_n (i := 1) dX11_act_1 rfl rfl ?_
  refine G_cVr (as := [.inl i]) qX11_133 (x_personAt (d + 12) τ h hT i (by omega) (by omega)) rfl rfl (Nat.le_of_ble_eq_true rfl) (o0 hT) dX11_act_2 (fun x' h' e' => ?_)
  obtain ⟨rfl, eh'⟩ := e'
  rw [eh']
  clear eh'
  by_cases ho : 0 ≤ i ∧ i < h 0 1
  · rw [if_pos ho]
    obtain ⟨o, p1, p2, p3, p4, p5, p6, p7⟩ := y.pe_ (i).toNat (by omega)
    rw [p1]
    refine G_astore (ls' := [some (.inr (some 0)), some (.inl i), some (.inl a), some (.inl w), some (.inr (some o))]) dX11_act_5 (by decide) rfl ?_
    refine G_aload_n (i := 0) dX11_act_7 rfl rfl ?_
    refine G_getR fX11_22 rfl dX11_act_8 (o0 hT) (r0_2 hT) ?_
    refine G_iconst dX11_act_11 ?_
    refine G_putI fX11_313 dX11_act_12 (o2 hT) ?_
    refine G_aload dX11_act_15 rfl ?_
    refine G_ifnullS dX11_act_17 ?_
    refine G_iload_n (i := 2) dX11_act_20 rfl rfl ?_
    refine G_if_lt (tgt := 29) dX11_act_21 (by decide) (by omega) (fun c_1 => ?_) (fun c_1 => ?_)
    · refine G_iconst dX11_act_29 ?_
      refine G_iretZ rfl dX11_act_30 ?_
      exact ⟨by unfold f_actV; rw [if_pos (by omega)], by unfold f_actL; rw [if_pos (by omega)]; rfl⟩
    · refine G_iload_n (i := 2) dX11_act_24 rfl rfl ?_
      refine G_iconst dX11_act_25 ?_
      refine G_icmp_lt (tgt := 31) dX11_act_26 (by decide) (by omega) (by decide) (fun c_2 => ?_) (fun c_2 => ?_)
      · refine G_aload_n (i := 0) dX11_act_31 rfl rfl ?_
        refine G_getR fX11_22 rfl dX11_act_32 (o0 hT) (r0_2 hT) ?_
        refine G_aload dX11_act_35 rfl ?_
        refine G_iload_n (i := 2) dX11_act_37 rfl rfl ?_
        refine G_iload_n (i := 3) dX11_act_38 rfl rfl ?_
        refine G_cVi (as := [.inr (some o), .inl a, .inl w]) qX11_316 (x_performAll d τ (hs_ h 2 1 0) hT o p3 p2 (h 82 i.toNat) a w ((hs_na (by omega)).trans p5) (x.ki_ i.toNat (by omega)) (by omega) (by rw [hs_eq]; omega)) rfl rfl (Nat.le_of_ble_eq_true rfl) (o2 hT) dX11_act_39 (fun v1 h' e' => ?_)
        obtain ⟨rfl, rfl⟩ := e'
        refine G_iretZ rfl dX11_act_42 ?_
        have e2 : hs_ h 2 1 0 o 2 = h 83 i.toNat := (hs_na (by omega)).trans p6
        have e3 : hs_ h 2 1 0 o 3 = h 84 i.toNat := (hs_na (by omega)).trans p7
        have e0 : hs_ h 2 1 0 o 0 = i := (hs_na (by omega)).trans (p4.trans (by omega))
        rw [e2, e3, e0]
        exact ⟨by unfold f_actV; rw [if_neg (show ¬ ¬ ((0 ≤ i ∧ i ≤ h 81 0 - 1) ∧ (0 ≤ a ∧ a ≤ 2)) by omega)], by unfold f_actL; rw [if_neg (show ¬ ¬ ((0 ≤ i ∧ i ≤ h 81 0 - 1) ∧ (0 ≤ a ∧ a ≤ 2)) by omega)]⟩
      · refine G_iconst dX11_act_29 ?_
        refine G_iretZ rfl dX11_act_30 ?_
        exact ⟨by unfold f_actV; rw [if_pos (by omega)], by unfold f_actL; rw [if_pos (by omega)]; rfl⟩
  · rw [if_neg ho]
    refine G_astore (ls' := [some (.inr (some 0)), some (.inl i), some (.inl a), some (.inl w), some (.inr none)]) dX11_act_5 (by decide) rfl ?_
    refine G_aload_n (i := 0) dX11_act_7 rfl rfl ?_
    refine G_getR fX11_22 rfl dX11_act_8 (o0 hT) (r0_2 hT) ?_
    refine G_iconst dX11_act_11 ?_
    refine G_putI fX11_313 dX11_act_12 (o2 hT) ?_
    refine G_aload dX11_act_15 rfl ?_
    refine G_ifnullN (tgt := 29) dX11_act_17 (by decide) ?_
    refine G_iconst dX11_act_29 ?_
    refine G_iretZ rfl dX11_act_30 ?_
    exact ⟨by unfold f_actV; rw [if_pos (by omega)], by unfold f_actL; rw [if_pos (by omega)]; rfl⟩

theorem act_o {h : HT} {L : List Int} {a k : Nat} (q : a ≠ 121 ∧ ¬ (a = 81 ∧ k = 55) ∧ a ≠ 2 ∧ a ≠ 3) : f_logs (hs_ (x_logs (hs_ h 2 1 0) L) 81 55 0) L a k = h a k := by
  rw [f_logs_o L ⟨q.1, q.2.1⟩, show ∀ (X : HT) v, hs_ X 81 55 v a k = X a k from fun X v => if_neg q.2.1, x_logs_o L q.2.2, hs_na q.2.2.1]
theorem f_actL_n (h : HT) (i a : Int) : (f_actL h i a).length ≤ 16 := by
  have e1 := gL_n (h 82 i.toNat)
  have e2 := lL_n (h 82 i.toNat)
  have e3 := sL_n (h 82 i.toNat)
  unfold f_actL
  split
  · exact Nat.zero_le _
  · split
    · omega
    · split <;> omega
theorem SIM_act {τ : TT} {h : HT} (s : SIM τ h) {L : List Int} (hL : L.length ≤ 16) : SIM τ (f_logs (hs_ (x_logs (hs_ h 2 1 0) L) 81 55 0) L) := by
  obtain ⟨hT, x, y⟩ := s
  generalize hH : (f_logs (hs_ (x_logs (hs_ h 2 1 0) L) 81 55 0) L) = H
  have o81_0 : H 81 0 = h 81 0 := by rw [← hH]; exact act_o (by omega)
  have o81_1 : H 81 1 = h 81 1 := by rw [← hH]; exact act_o (by omega)
  have o81_11 : H 81 11 = h 81 11 := by rw [← hH]; exact act_o (by omega)
  have o81_14 : H 81 14 = h 81 14 := by rw [← hH]; exact act_o (by omega)
  have o81_15 : H 81 15 = h 81 15 := by rw [← hH]; exact act_o (by omega)
  have o81_20 : H 81 20 = h 81 20 := by rw [← hH]; exact act_o (by omega)
  have o81_26 : H 81 26 = h 81 26 := by rw [← hH]; exact act_o (by omega)
  have o81_27 : H 81 27 = h 81 27 := by rw [← hH]; exact act_o (by omega)
  have q0_1 : H 0 1 = h 0 1 := by rw [← hH]; exact act_o (by omega)
  have q0_6 : H 0 6 = h 0 6 := by rw [← hH]; exact act_o (by omega)
  have q6_0 : H 6 0 = h 6 0 := by rw [← hH]; exact act_o (by omega)
  have q6_1 : H 6 1 = h 6 1 := by rw [← hH]; exact act_o (by omega)
  have q6_2 : H 6 2 = h 6 2 := by rw [← hH]; exact act_o (by omega)
  have q11_1 : H 11 1 = h 11 1 := by rw [← hH]; exact act_o (by omega)
  have q13_0 : H 13 0 = h 13 0 := by rw [← hH]; exact act_o (by omega)
  have q13_1 : H 13 1 = h 13 1 := by rw [← hH]; exact act_o (by omega)
  have q18_3 : H 18 3 = h 18 3 := by rw [← hH]; exact act_o (by omega)
  have q39_1 : H 39 1 = h 39 1 := by rw [← hH]; exact act_o (by omega)
  have q39_3 : H 39 3 = h 39 3 := by rw [← hH]; exact act_o (by omega)
  have o82 : ∀ k, H 82 k = h 82 k := fun k => by rw [← hH]; exact act_o (by omega)
  have o83 : ∀ k, H 83 k = h 83 k := fun k => by rw [← hH]; exact act_o (by omega)
  have o84 : ∀ k, H 84 k = h 84 k := fun k => by rw [← hH]; exact act_o (by omega)
  have o85 : ∀ k, H 85 k = h 85 k := fun k => by rw [← hH]; exact act_o (by omega)
  have o86 : ∀ k, H 86 k = h 86 k := fun k => by rw [← hH]; exact act_o (by omega)
  have o87 : ∀ k, H 87 k = h 87 k := fun k => by rw [← hH]; exact act_o (by omega)
  have o88 : ∀ k, H 88 k = h 88 k := fun k => by rw [← hH]; exact act_o (by omega)
  have o89 : ∀ k, H 89 k = h 89 k := fun k => by rw [← hH]; exact act_o (by omega)
  have o90 : ∀ k, H 90 k = h 90 k := fun k => by rw [← hH]; exact act_o (by omega)
  have o93 : ∀ k, H 93 k = h 93 k := fun k => by rw [← hH]; exact act_o (by omega)
  have o94 : ∀ k, H 94 k = h 94 k := fun k => by rw [← hH]; exact act_o (by omega)
  have o95 : ∀ k, H 95 k = h 95 k := fun k => by rw [← hH]; exact act_o (by omega)
  have o96 : ∀ k, H 96 k = h 96 k := fun k => by rw [← hH]; exact act_o (by omega)
  have o97 : ∀ k, H 97 k = h 97 k := fun k => by rw [← hH]; exact act_o (by omega)
  have o98 : ∀ k, H 98 k = h 98 k := fun k => by rw [← hH]; exact act_o (by omega)
  have o99 : ∀ k, H 99 k = h 99 k := fun k => by rw [← hH]; exact act_o (by omega)
  have o102 : ∀ k, H 102 k = h 102 k := fun k => by rw [← hH]; exact act_o (by omega)
  have o103 : ∀ k, H 103 k = h 103 k := fun k => by rw [← hH]; exact act_o (by omega)
  have o104 : ∀ k, H 104 k = h 104 k := fun k => by rw [← hH]; exact act_o (by omega)
  have o122 : ∀ k, H 122 k = h 122 k := fun k => by rw [← hH]; exact act_o (by omega)
  have o123 : ∀ k, H 123 k = h 123 k := fun k => by rw [← hH]; exact act_o (by omega)
  have o124 : ∀ k, H 124 k = h 124 k := fun k => by rw [← hH]; exact act_o (by omega)
  have o4 : ∀ k, H 4 k = h 4 k := fun k => by rw [← hH]; exact act_o (by omega)
  have o5 : ∀ k, H 5 k = h 5 k := fun k => by rw [← hH]; exact act_o (by omega)
  have o7 : ∀ k, H 7 k = h 7 k := fun k => by rw [← hH]; exact act_o (by omega)
  have o8 : ∀ k, H 8 k = h 8 k := fun k => by rw [← hH]; exact act_o (by omega)
  have o9 : ∀ k, H 9 k = h 9 k := fun k => by rw [← hH]; exact act_o (by omega)
  have o12 : ∀ k, H 12 k = h 12 k := fun k => by rw [← hH]; exact act_o (by omega)
  have o14 : ∀ k, H 14 k = h 14 k := fun k => by rw [← hH]; exact act_o (by omega)
  have o15 : ∀ k, H 15 k = h 15 k := fun k => by rw [← hH]; exact act_o (by omega)
  have o16 : ∀ k, H 16 k = h 16 k := fun k => by rw [← hH]; exact act_o (by omega)
  have o17 : ∀ k, H 17 k = h 17 k := fun k => by rw [← hH]; exact act_o (by omega)
  have o19 : ∀ k, H 19 k = h 19 k := fun k => by rw [← hH]; exact act_o (by omega)
  have o20 : ∀ k, H 20 k = h 20 k := fun k => by rw [← hH]; exact act_o (by omega)
  have o21 : ∀ k, H 21 k = h 21 k := fun k => by rw [← hH]; exact act_o (by omega)
  have o41 : ∀ k, H 41 k = h 41 k := fun k => by rw [← hH]; exact act_o (by omega)
  have o100 : ∀ k, H 100 k = h 100 k := fun k => by rw [← hH]; exact act_o (by omega)
  have hbig : ∀ a k : Nat, 126 ≤ a → H a k = h a k := fun a k ha => by rw [← hH]; exact act_o (by omega)
  have hst : ∀ a k : Nat, 24 ≤ a → a ≤ 27 → H a k = h a k := fun a k ha hb => by rw [← hH]; exact act_o (by omega)
  have htp : ∀ a k : Nat, 69 ≤ a → a ≤ 80 → H a k = h a k := fun a k ha hb => by rw [← hH]; exact act_o (by omega)
  refine ⟨hT, ⟨?_, ?_, ?_, ?_, ?_, ?_, ?_, ?_, ?_, ?_, ?_, ?_, ?_, ?_, ?_, ?_, ?_, ?_, ?_, ?_, ?_, ?_, ?_, ?_, ?_, ?_, ?_, ?_, ?_, ?_, ?_, ?_⟩, ⟨?_, ?_, ?_, ?_, ?_, ?_, ?_, ?_, ?_, ?_, ?_, ?_, ?_, ?_, ?_, ?_, ?_, ?_, ?_, ?_, ?_, ?_, ?_, ?_, ?_, ?_, ?_, ?_, ?_⟩⟩
  · simp only [o81_0]; exact x.p_
  · simp only [o81_1]; exact x.n_
  · simp only [o81_1, o81_11]; exact x.d_
  · simp only [o81_1, o81_14]; exact x.s_
  · simp only [o81_1, o81_15]; exact x.r_
  · simp only [o81_20]; exact x.t_
  · simp only [o81_26]; exact x.f_
  · simp only [o81_27]; exact x.e_
  · rw [← hH, f_logs_n, hs_eq]; omega
  · simp only [o82]; exact x.ki_
  · simp only [o83]; exact x.re_
  · simp only [o84]; exact x.pa_
  · simp only [o85]; exact x.wh_
  · simp only [o81_1, o86]; exact x.ha_
  · simp only [o81_1, o86]; exact x.hi_
  · simp only [o87]; exact x.co_
  · simp only [o88]; exact x.le_
  · simp only [o89]; exact x.be_
  · simp only [o90]; exact x.cc_
  · simp only [o81_1, o81_14, o93]; exact x.st_
  · simp only [o94]; exact x.mk_
  · simp only [o95]; exact x.cr_
  · simp only [o96]; exact x.cm_
  · simp only [o97]; exact x.t7_
  · simp only [o98]; exact x.t8_
  · simp only [o99]; exact x.t9_
  · simp only [o81_26, o102]; exact x.ma_
  · simp only [o81_26, o102, o103]; exact x.to_
  · simp only [o104]; exact x.tx_
  · simp only [o122]; exact x.so_
  · simp only [o123]; exact x.si_
  · simp only [o124]; exact x.it_
  · simp only [o81_0, q0_1]; exact y.pc_
  · intro k hk; rw [o81_0] at hk; obtain ⟨o, p1, p2, p3, p4, p5, p6, p7⟩ := y.pe_ k hk; exact ⟨o, p1, p2, p3, by rw [hbig o 0 p2]; exact p4, by rw [hbig o 1 p2, o82]; exact p5, by rw [hbig o 2 p2, o83]; exact p6, by rw [hbig o 3 p2, o84]; exact p7⟩
  · rw [← hH, f_logs_n, hs_eq, f_logs_o L (by decide), hs_na (by decide), x_logs_n, hs_eq]
  · intro k hk
    rw [← hH, f_logs_o L (by omega), hs_na (by decide)]
    exact x_logs_f L (h := hs_ h 2 1 0) (g := hs_ (x_logs (hs_ h 2 1 0) L) 81 55 0) (by rw [hs_eq, hs_eq]) (by rw [hs_eq]; exact Int.le_refl 0) (fun j hj => by rw [hs_na (by decide), hs_na (by decide), x_logs_o L (by decide), hs_na (by decide)]; exact y.tr_ j hj) k hk
  · simp only [o81_1, o85, o86, o4]; exact y.wh_
  · simp only [o4]; exact y.wr_
  · simp only [o87, o5]; exact y.co_
  · simp only [o81_1, o81_14, o81_15, q6_0, q6_1, q6_2]; exact y.fn_
  · simp only [o81_1, o86, o7]; exact y.or_
  · simp only [o81_1, o88, o8]; exact y.le_
  · simp only [o81_1, o94, o9]; exact y.mk_
  · simp only [o81_1, o81_11, q0_6]; exact y.da_
  · simp only [o81_1, o81_14, q11_1]; exact y.dc_
  · simp only [o81_1, o81_14, o93, o12]; exact y.dd_
  · simp only [o81_1, o81_15, q13_0, q13_1]; exact y.cn_
  · intro r p hr hp; rw [o81_15] at hr; rw [o81_1] at hp; rw [o14, o15, o16, o95, o96, f_top_k o81_1 o95 o96]; exact y.cl_ r p hr hp
  · simp only [o14, o15]; exact y.cr_
  · simp only [o17]; exact y.cc_
  · simp only [o81_1, o81_11, o81_15, o90, o17]; exact y.ce_
  · simp only [o81_20, q18_3, o97, o98, o99, o19, o20, o21]; exact y.pi_
  · intro hd; rw [o81_11] at hd; rw [o81_1, show t_0 H = t_0 h from by unfold t_0; rw [show H 89 = h 89 from funext o89]]; exact (y.sf_ hd).fr (fun b j b1 b2 => hst b j (by omega) (by omega))
  · rw [o81_26]; exact (y.fg_.fr q39_1 hbig).cg (fun f hf => figL_c (o102 f) (fun k hk => o103 _))
  · simp only [o81_27, q39_3, o104, o41]; exact y.tx_
  · intro t ht; have := y.tp_ t ht; rw [htp (69 + 2 * t) 0 (by omega) (by omega), htp (69 + 2 * t) 1 (by omega) (by omega), o122, o123]; refine ⟨this.1, this.2.1, fun i hi => ?_⟩; rw [htp (70 + 2 * t) i (by omega) (by omega), o124]; exact this.2.2 i hi
  · simp only [o81_1, o81_11, o86]; exact y.nd_
  · simp only [o122, o123]; exact y.sn_
  · intro r p hr hp; rw [o81_15] at hr; rw [o81_1] at hp ⊢; rw [o95]; exact y.ok_ r p hr hp
  · simp only [o100]; exact y.gs_
  · rw [o81_0, o81_26]; exact y.sz_
theorem op_act {τ : TT} {h : HT} (s : SIM τ h) (i a w : Int) (r_i : -2147483648 ≤ i ∧ i ≤ 2147483647) (r_a : -2147483648 ≤ a ∧ a ≤ 2147483647) (r_w : -2147483648 ≤ w ∧ w ≤ 2147483647) : OPS mX11_act mX12_act 20 0 0 [.inl i, .inl a, .inl w] τ h := by
  have s0 := s
  obtain ⟨hT, x, y⟩ := s
  have rf : RF h (x_logs (hs_ h 2 1 0) (f_actL h i a)) := fun b j z1 z2 => (x_logs_o _ (by omega)).trans (hs_na (by omega))
  refine OPS_f x (f_actV h i a w, x_logs (hs_ h 2 1 0) (f_actL h i a)) (fun g => (f_actV g i a w, f_logs (hs_ g 81 55 0) (f_actL g i a))) (fun d => x_actM (d + 7) τ h hT x y i a w r_i r_a r_w) rf (fun d x1 => m_act (d + 12) τ _ hT i a w r_i r_a x1.p_ x1.ki_) ?_
  have e0 : ∀ k, x_logs (hs_ h 2 1 0) (f_actL h i a) 81 k = h 81 k := fun k => rf 81 k (by decide) (by decide)
  have e2 : ∀ k, x_logs (hs_ h 2 1 0) (f_actL h i a) 82 k = h 82 k := fun k => rf 82 k (by decide) (by decide)
  have e3 : ∀ k, x_logs (hs_ h 2 1 0) (f_actL h i a) 83 k = h 83 k := fun k => rf 83 k (by decide) (by decide)
  have e4 : ∀ k, x_logs (hs_ h 2 1 0) (f_actL h i a) 84 k = h 84 k := fun k => rf 84 k (by decide) (by decide)
  have eL : f_actL (x_logs (hs_ h 2 1 0) (f_actL h i a)) i a = f_actL h i a := by
    show (if ¬ ((0 ≤ i ∧ i ≤ x_logs (hs_ h 2 1 0) (f_actL h i a) 81 0 - 1) ∧ (0 ≤ a ∧ a ≤ 2)) then [] else if a = 0 then gL (x_logs (hs_ h 2 1 0) (f_actL h i a) 82 i.toNat) else if a = 1 then lL (x_logs (hs_ h 2 1 0) (f_actL h i a) 82 i.toNat) else sL (x_logs (hs_ h 2 1 0) (f_actL h i a) 82 i.toNat)) = _
    rw [e0, e2]; rfl
  have eV : f_actV (x_logs (hs_ h 2 1 0) (f_actL h i a)) i a w = f_actV h i a w := by
    unfold f_actV; rw [e0, e2, e3, e4]
  refine ⟨eV, ?_⟩
  show SIM τ (f_logs (hs_ (x_logs (hs_ h 2 1 0) (f_actL h i a)) 81 55 0) (f_actL (x_logs (hs_ h 2 1 0) (f_actL h i a)) i a))
  rw [eL]
  exact SIM_act s0 (f_actL_n h i a)
theorem x_standsInRing_L (d : Nat) (τ : TT) (h : HT) (hT : TK τ) (q : Int) (r_q : -2147483648 ≤ q ∧ q ≤ 2147483647) (hn : 0 ≤ h 6 0 ∧ h 6 0 ≤ 9) (hw : ∀ k : Nat, k < 9 → -5 ≤ h 4 k ∧ h 4 k ≤ 15) : ∀ (n_ : Nat) (i : Nat), (h 6 0).toNat - i < n_ → (i : Int) ≤ h 6 0 → (∀ j : Nat, j < i → h 4 j ≠ q) → G_ mX11_standsInRing d 0 0 2 [some (.inr (some 0)), some (.inl q), some (.inl (i : Int))] [] τ h (Zi τ fun v h' => v = (if ∃ k : Nat, k < (h 6 0).toNat ∧ h 4 k = q then 1 else 0) ∧ h' = h) := by
  intro n_
  induction n_ with
  | zero => intro i hm_; exact absurd hm_ (Nat.not_lt_zero _)
  | succ n_ ih =>
    intro i hm_ hi hj
    refine G_iload_n (i := 2) dX11_standsInRing_2 rfl rfl ?_
    refine G_aload_n (i := 0) dX11_standsInRing_3 rfl rfl ?_
    refine G_getR fX11_36 rfl dX11_standsInRing_4 (o0 hT) (r0_5 hT) ?_
    refine G_getI (v := h 6 0) fX11_157 rfl dX11_standsInRing_7 (o6 hT) rfl ?_
    refine G_icmp_ge (tgt := 31) dX11_standsInRing_10 (by decide) (by omega) (by omega) (fun c_1 => ?_) (fun c_1 => ?_)
    · refine G_iconst dX11_standsInRing_31 ?_
      refine G_zretZ rfl (by decide) dX11_standsInRing_32 ?_
      exact ⟨by rw [if_neg (by rintro ⟨k, k1, k2⟩; exact hj k (by omega) k2)], rfl⟩
    · refine G_aload_n (i := 0) dX11_standsInRing_13 rfl rfl ?_
      refine G_getR fX11_26 rfl dX11_standsInRing_14 (o0 hT) (r0_3 hT) ?_
      refine G_iload_n (i := 2) dX11_standsInRing_17 rfl rfl ?_
      refine G_iald (v := h 4 i) dX11_standsInRing_18 (o4 hT) (by omega) rfl ?_
      have e_ := hw i (by omega)
      refine G_iload_n (i := 1) dX11_standsInRing_19 rfl rfl ?_
      refine G_icmp_ne (tgt := 25) dX11_standsInRing_20 (by decide) (by omega) (by omega) (fun c_2 => ?_) (fun c_2 => ?_)
      · refine G_iinc (ls' := [some (.inr (some 0)), some (.inl q), some (.inl ((i : Int) + 1))]) dX11_standsInRing_25 (by decide) rfl rfl ?_
        refine G_goto (tgt := 2) dX11_standsInRing_28 (by decide) ?_
        exact ih (i + 1) (by omega) (by omega) (fun j hj2 => by rcases Nat.lt_succ_iff_lt_or_eq.mp hj2 with z | z; exact hj j z; subst z; omega)
      · refine G_iconst dX11_standsInRing_23 ?_
        refine G_zretZ rfl (by decide) dX11_standsInRing_24 ?_
        exact ⟨by rw [if_pos ⟨i, by omega, by omega⟩], rfl⟩

theorem x_standsInRing (d : Nat) (τ : TT) (h : HT) (hT : TK τ) (q : Int) (r_q : -2147483648 ≤ q ∧ q ≤ 2147483647) (hn : 0 ≤ h 6 0 ∧ h 6 0 ≤ 9) (hw : ∀ k : Nat, k < 9 → -5 ≤ h 4 k ∧ h 4 k ≤ 15) : S_ mX11_standsInRing d 0 0 [.inr (some 0), .inl q] τ h (Zi τ fun v h' => v = (if ∃ k : Nat, k < (h 6 0).toNat ∧ h 4 k = q then 1 else 0) ∧ h' = h) := by
  refine S_go (k := 1) (ls := [some (.inr (some 0)), some (.inl q), none]) (by decide) rfl (Nat.le_of_ble_eq_true rfl) rfl ?_
  refine G_iconst dX11_standsInRing_0 ?_
  refine G_istore_n (i := 2) (ls' := [some (.inr (some 0)), some (.inl q), some (.inl 0)]) dX11_standsInRing_1 rfl (by decide) rfl ?_
  exact x_standsInRing_L d τ h hT q r_q hn hw _ 0 (Nat.lt_succ_self _) (by omega) (fun j hj => absurd hj (Nat.not_lt_zero _))

def x_stand (h : HT) (p q : Int) : Int × HT := if ¬ ((0 ≤ p ∧ p ≤ h 81 1 - 1) ∧ (0 ≤ q ∧ q ≤ h 81 0 - 1)) then (-1, h) else if h 81 11 ≠ 0 then (-3, h) else if ∃ k, k < (h 81 1).toNat ∧ h 85 k = q then (-3, h) else if h 82 q.toNat = 4 then (-12, h) else (h 85 p.toNat, hs_ h 4 p.toNat q)
theorem st_e {τ : TT} {h : HT} (x : MI h) (y : XR τ h) (hd : h 81 11 = 0) {q : Int} : (∃ k : Nat, k < (h 6 0).toNat ∧ h 4 k = q) ↔ ∃ k : Nat, k < (h 81 1).toNat ∧ h 85 k = q := by
  have fn := y.fn_
  have n9 := x.n9
  rw [fn.1]
  constructor
  · rintro ⟨k, k1, k2⟩
    refine ⟨k, k1, ?_⟩
    rw [y.wh_ k (by omega), y.nd_ hd k (by omega)]; exact k2
  · rintro ⟨k, k1, k2⟩
    refine ⟨k, k1, ?_⟩
    rw [y.wh_ k (by omega), y.nd_ hd k (by omega)] at k2; exact k2
theorem x_standM (d : Nat) (τ : TT) (h : HT) (hT : TK τ) (x : MI h) (y : XR τ h) (p q : Int) (r_p : -2147483648 ≤ p ∧ p ≤ 2147483647) (r_q : -2147483648 ≤ q ∧ q ≤ 2147483647) : S_ mX11_stand (d + 1) 0 0 [.inr (some 0), .inl p, .inl q] τ h (Zi τ fun v h' => v = (x_stand h p q).1 ∧ h' = (x_stand h p q).2) := by
  have n9 := x.n9
  have d1 := x.d1
  have n_ := x.n_
  have fn := y.fn_
  have da := y.da_
  have cn := y.cn_
  have r_r_ := x.r_
  have s_s_ := x.s_
  have dc := y.dc_
  have pc := y.pc_
  have pp := x.p_
  have fgc := y.fg_.1
  have f10 := x.f_
  have ra := y.ra_
  have a100 := x.a_
  have pic := y.pi_
  have t40 := x.t_
  have txx := y.tx_
  have e80 := x.e_
  refine S_go (k := 2) (ls := [some (.inr (some 0)), some (.inl p), some (.inl q), none, none]) (by decide) rfl (Nat.le_of_ble_eq_true rfl) rfl ?_
  refine G_aload_n (i := 0) dX11_stand_0 rfl rfl ?_
  refine G_iload_n (i := 2) dX11_stand_1 rfl rfl ?_
  refine G_cVr (as := [.inl q]) qX11_133 (x_personAt d τ h hT q (by omega) (by omega)) rfl rfl (Nat.le_of_ble_eq_true rfl) (o0 hT) dX11_stand_2 (fun x' h' e' => ?_)
  obtain ⟨rfl, eh'⟩ := e'
  rw [eh']
  clear eh'
  by_cases ho : 0 ≤ q ∧ q < h 0 1
  · rw [if_pos ho]
    obtain ⟨o, p1, p2, p3, p4, p5, p6, p7⟩ := y.pe_ (q).toNat (by omega)
    rw [p1]
    refine G_astore_n (i := 3) (ls' := [some (.inr (some 0)), some (.inl p), some (.inl q), some (.inr (some o)), none]) dX11_stand_5 rfl (by decide) rfl ?_
    refine G_aload_n (i := 0) dX11_stand_6 rfl rfl ?_
    refine G_iload_n (i := 1) dX11_stand_7 rfl rfl ?_
    refine G_cVq (as := [.inl p]) qX11_137 (x_isPlace d τ h hT p (by omega) (by omega)) rfl rfl (Nat.le_of_ble_eq_true rfl) (o0 hT) dX11_stand_8 ?_
    refine G_ifb_eq (tgt := 18) dX11_stand_11 (by decide) (fun c_1 => ?_) (fun c_1 => ?_)
    · refine G_iconst dX11_stand_18 ?_
      refine G_iretZ rfl dX11_stand_19 ?_
      unfold x_stand; rw [if_pos (by omega)]; exact ⟨rfl, rfl⟩
    · refine G_aload_n (i := 3) dX11_stand_14 rfl rfl ?_
      refine G_ifnonnullS (tgt := 20) dX11_stand_15 (by decide) ?_
      refine G_aload_n (i := 0) dX11_stand_20 rfl rfl ?_
      refine G_getI (v := h 0 6) fX11_40 rfl dX11_stand_21 (o0 hT) rfl ?_
      refine G_if_ne (tgt := 35) dX11_stand_24 (by decide) (by omega) (fun c_2 => ?_) (fun c_2 => ?_)
      · refine G_bipush dX11_stand_35 (by decide) ?_
        refine G_iretZ rfl dX11_stand_37 ?_
        unfold x_stand; rw [if_neg (by omega), if_pos (by omega)]; exact ⟨rfl, rfl⟩
      · refine G_aload_n (i := 0) dX11_stand_27 rfl rfl ?_
        refine G_iload_n (i := 2) dX11_stand_28 rfl rfl ?_
        refine G_cVq (as := [.inl q]) qX11_141 (x_standsInRing d τ h hT q (by omega) (by omega) y.wr_) rfl rfl (Nat.le_of_ble_eq_true rfl) (o0 hT) dX11_stand_29 ?_
        refine G_ifb_eq (tgt := 38) dX11_stand_32 (by decide) (fun c_3 => ?_) (fun c_3 => ?_)
        · refine G_aload_n (i := 3) dX11_stand_38 rfl rfl ?_
          refine G_getI (v := h o 1) fX11_144 rfl dX11_stand_39 p3 rfl ?_
          have ki := x.ki_ q.toNat (by omega)
          have wr_ := y.wr_ p.toNat (by omega)
          refine G_iconst dX11_stand_42 ?_
          refine G_icmp_ne (tgt := 49) dX11_stand_43 (by decide) (by omega) (by decide) (fun c_4 => ?_) (fun c_4 => ?_)
          · refine G_aload_n (i := 0) dX11_stand_49 rfl rfl ?_
            refine G_getR fX11_26 rfl dX11_stand_50 (o0 hT) (r0_3 hT) ?_
            refine G_iload_n (i := 1) dX11_stand_53 rfl rfl ?_
            refine G_iald (v := h 4 ((p).toNat)) dX11_stand_54 (o4 hT) (by omega) rfl ?_
            refine G_istore (ls' := [some (.inr (some 0)), some (.inl p), some (.inl q), some (.inr (some o)), some (.inl (h 4 ((p).toNat)))]) dX11_stand_55 (by decide) rfl ?_
            refine G_aload_n (i := 0) dX11_stand_57 rfl rfl ?_
            refine G_getR fX11_26 rfl dX11_stand_58 (o0 hT) (r0_3 hT) ?_
            refine G_iload_n (i := 1) dX11_stand_61 rfl rfl ?_
            refine G_iload_n (i := 2) dX11_stand_62 rfl rfl ?_
            refine G_iastk ((p).toNat) dX11_stand_63 (o4 hT) (by omega) rfl ?_
            refine G_iload dX11_stand_64 rfl ?_
            refine G_iretZ rfl dX11_stand_66 ?_
            unfold x_stand; rw [if_neg (by omega), if_neg (by omega), if_neg (fun z => absurd ((st_e x y (by omega)).mpr z) (by assumption)), if_neg (by omega)]
            refine ⟨?_, rfl⟩
            rw [y.wh_ p.toNat (by omega), y.nd_ (by omega) p.toNat (by omega)]; rfl
          · refine G_bipush dX11_stand_46 (by decide) ?_
            refine G_iretZ rfl dX11_stand_48 ?_
            unfold x_stand; rw [if_neg (by omega), if_neg (by omega), if_neg (fun z => absurd ((st_e x y (by omega)).mpr z) (by assumption)), if_pos (by omega)]; exact ⟨rfl, rfl⟩
        · refine G_bipush dX11_stand_35 (by decide) ?_
          refine G_iretZ rfl dX11_stand_37 ?_
          unfold x_stand; rw [if_neg (by omega), if_neg (by omega), if_pos ((st_e x y (by omega)).mp (by assumption))]; exact ⟨rfl, rfl⟩
  · rw [if_neg ho]
    refine G_astore_n (i := 3) (ls' := [some (.inr (some 0)), some (.inl p), some (.inl q), some (.inr none), none]) dX11_stand_5 rfl (by decide) rfl ?_
    refine G_aload_n (i := 0) dX11_stand_6 rfl rfl ?_
    refine G_iload_n (i := 1) dX11_stand_7 rfl rfl ?_
    refine G_cVq (as := [.inl p]) qX11_137 (x_isPlace d τ h hT p (by omega) (by omega)) rfl rfl (Nat.le_of_ble_eq_true rfl) (o0 hT) dX11_stand_8 ?_
    refine G_ifb_eq (tgt := 18) dX11_stand_11 (by decide) (fun c_5 => ?_) (fun c_5 => ?_)
    · refine G_iconst dX11_stand_18 ?_
      refine G_iretZ rfl dX11_stand_19 ?_
      unfold x_stand; rw [if_pos (by omega)]; exact ⟨rfl, rfl⟩
    · refine G_aload_n (i := 3) dX11_stand_14 rfl rfl ?_
      refine G_ifnonnullN dX11_stand_15 ?_
      refine G_iconst dX11_stand_18 ?_
      refine G_iretZ rfl dX11_stand_19 ?_
      unfold x_stand; rw [if_pos (by omega)]; exact ⟨rfl, rfl⟩

theorem SIM_stand {τ : TT} {h : HT} (s : SIM τ h) {p : Nat} {q : Int} (hp : (p : Int) < h 81 1) (hq : 0 ≤ q ∧ q ≤ 14) (hd : h 81 11 = 0) : SIM τ (hs_ (hs_ h 4 p q) 85 p q) := by
  obtain ⟨hT, x, y⟩ := s
  generalize hH : (hs_ (hs_ h 4 p q) 85 p q) = H
  have o81_0 : H 81 0 = h 81 0 := by rw [← hH]; simp only [hs_, hf_]; (repeat (first | rfl | rw [if_neg (by omega)]))
  have o81_1 : H 81 1 = h 81 1 := by rw [← hH]; simp only [hs_, hf_]; (repeat (first | rfl | rw [if_neg (by omega)]))
  have o81_11 : H 81 11 = h 81 11 := by rw [← hH]; simp only [hs_, hf_]; (repeat (first | rfl | rw [if_neg (by omega)]))
  have o81_14 : H 81 14 = h 81 14 := by rw [← hH]; simp only [hs_, hf_]; (repeat (first | rfl | rw [if_neg (by omega)]))
  have o81_15 : H 81 15 = h 81 15 := by rw [← hH]; simp only [hs_, hf_]; (repeat (first | rfl | rw [if_neg (by omega)]))
  have o81_20 : H 81 20 = h 81 20 := by rw [← hH]; simp only [hs_, hf_]; (repeat (first | rfl | rw [if_neg (by omega)]))
  have o81_26 : H 81 26 = h 81 26 := by rw [← hH]; simp only [hs_, hf_]; (repeat (first | rfl | rw [if_neg (by omega)]))
  have o81_27 : H 81 27 = h 81 27 := by rw [← hH]; simp only [hs_, hf_]; (repeat (first | rfl | rw [if_neg (by omega)]))
  have o81_55 : H 81 55 = h 81 55 := by rw [← hH]; simp only [hs_, hf_]; (repeat (first | rfl | rw [if_neg (by omega)]))
  have q0_1 : H 0 1 = h 0 1 := by rw [← hH]; simp only [hs_, hf_]; (repeat (first | rfl | rw [if_neg (by omega)]))
  have q0_6 : H 0 6 = h 0 6 := by rw [← hH]; simp only [hs_, hf_]; (repeat (first | rfl | rw [if_neg (by omega)]))
  have q2_1 : H 2 1 = h 2 1 := by rw [← hH]; simp only [hs_, hf_]; (repeat (first | rfl | rw [if_neg (by omega)]))
  have q6_0 : H 6 0 = h 6 0 := by rw [← hH]; simp only [hs_, hf_]; (repeat (first | rfl | rw [if_neg (by omega)]))
  have q6_1 : H 6 1 = h 6 1 := by rw [← hH]; simp only [hs_, hf_]; (repeat (first | rfl | rw [if_neg (by omega)]))
  have q6_2 : H 6 2 = h 6 2 := by rw [← hH]; simp only [hs_, hf_]; (repeat (first | rfl | rw [if_neg (by omega)]))
  have q11_1 : H 11 1 = h 11 1 := by rw [← hH]; simp only [hs_, hf_]; (repeat (first | rfl | rw [if_neg (by omega)]))
  have q13_0 : H 13 0 = h 13 0 := by rw [← hH]; simp only [hs_, hf_]; (repeat (first | rfl | rw [if_neg (by omega)]))
  have q13_1 : H 13 1 = h 13 1 := by rw [← hH]; simp only [hs_, hf_]; (repeat (first | rfl | rw [if_neg (by omega)]))
  have q18_3 : H 18 3 = h 18 3 := by rw [← hH]; simp only [hs_, hf_]; (repeat (first | rfl | rw [if_neg (by omega)]))
  have q39_1 : H 39 1 = h 39 1 := by rw [← hH]; simp only [hs_, hf_]; (repeat (first | rfl | rw [if_neg (by omega)]))
  have q39_3 : H 39 3 = h 39 3 := by rw [← hH]; simp only [hs_, hf_]; (repeat (first | rfl | rw [if_neg (by omega)]))
  have o82 : ∀ k, H 82 k = h 82 k := fun k => by rw [← hH]; simp only [hs_, hf_]; (repeat (first | rfl | rw [if_neg (by omega)]))
  have o83 : ∀ k, H 83 k = h 83 k := fun k => by rw [← hH]; simp only [hs_, hf_]; (repeat (first | rfl | rw [if_neg (by omega)]))
  have o84 : ∀ k, H 84 k = h 84 k := fun k => by rw [← hH]; simp only [hs_, hf_]; (repeat (first | rfl | rw [if_neg (by omega)]))
  have o86 : ∀ k, H 86 k = h 86 k := fun k => by rw [← hH]; simp only [hs_, hf_]; (repeat (first | rfl | rw [if_neg (by omega)]))
  have o87 : ∀ k, H 87 k = h 87 k := fun k => by rw [← hH]; simp only [hs_, hf_]; (repeat (first | rfl | rw [if_neg (by omega)]))
  have o88 : ∀ k, H 88 k = h 88 k := fun k => by rw [← hH]; simp only [hs_, hf_]; (repeat (first | rfl | rw [if_neg (by omega)]))
  have o89 : ∀ k, H 89 k = h 89 k := fun k => by rw [← hH]; simp only [hs_, hf_]; (repeat (first | rfl | rw [if_neg (by omega)]))
  have o90 : ∀ k, H 90 k = h 90 k := fun k => by rw [← hH]; simp only [hs_, hf_]; (repeat (first | rfl | rw [if_neg (by omega)]))
  have o93 : ∀ k, H 93 k = h 93 k := fun k => by rw [← hH]; simp only [hs_, hf_]; (repeat (first | rfl | rw [if_neg (by omega)]))
  have o94 : ∀ k, H 94 k = h 94 k := fun k => by rw [← hH]; simp only [hs_, hf_]; (repeat (first | rfl | rw [if_neg (by omega)]))
  have o95 : ∀ k, H 95 k = h 95 k := fun k => by rw [← hH]; simp only [hs_, hf_]; (repeat (first | rfl | rw [if_neg (by omega)]))
  have o96 : ∀ k, H 96 k = h 96 k := fun k => by rw [← hH]; simp only [hs_, hf_]; (repeat (first | rfl | rw [if_neg (by omega)]))
  have o97 : ∀ k, H 97 k = h 97 k := fun k => by rw [← hH]; simp only [hs_, hf_]; (repeat (first | rfl | rw [if_neg (by omega)]))
  have o98 : ∀ k, H 98 k = h 98 k := fun k => by rw [← hH]; simp only [hs_, hf_]; (repeat (first | rfl | rw [if_neg (by omega)]))
  have o99 : ∀ k, H 99 k = h 99 k := fun k => by rw [← hH]; simp only [hs_, hf_]; (repeat (first | rfl | rw [if_neg (by omega)]))
  have o102 : ∀ k, H 102 k = h 102 k := fun k => by rw [← hH]; simp only [hs_, hf_]; (repeat (first | rfl | rw [if_neg (by omega)]))
  have o103 : ∀ k, H 103 k = h 103 k := fun k => by rw [← hH]; simp only [hs_, hf_]; (repeat (first | rfl | rw [if_neg (by omega)]))
  have o104 : ∀ k, H 104 k = h 104 k := fun k => by rw [← hH]; simp only [hs_, hf_]; (repeat (first | rfl | rw [if_neg (by omega)]))
  have o122 : ∀ k, H 122 k = h 122 k := fun k => by rw [← hH]; simp only [hs_, hf_]; (repeat (first | rfl | rw [if_neg (by omega)]))
  have o123 : ∀ k, H 123 k = h 123 k := fun k => by rw [← hH]; simp only [hs_, hf_]; (repeat (first | rfl | rw [if_neg (by omega)]))
  have o124 : ∀ k, H 124 k = h 124 k := fun k => by rw [← hH]; simp only [hs_, hf_]; (repeat (first | rfl | rw [if_neg (by omega)]))
  have o3 : ∀ k, H 3 k = h 3 k := fun k => by rw [← hH]; simp only [hs_, hf_]; (repeat (first | rfl | rw [if_neg (by omega)]))
  have o5 : ∀ k, H 5 k = h 5 k := fun k => by rw [← hH]; simp only [hs_, hf_]; (repeat (first | rfl | rw [if_neg (by omega)]))
  have o7 : ∀ k, H 7 k = h 7 k := fun k => by rw [← hH]; simp only [hs_, hf_]; (repeat (first | rfl | rw [if_neg (by omega)]))
  have o8 : ∀ k, H 8 k = h 8 k := fun k => by rw [← hH]; simp only [hs_, hf_]; (repeat (first | rfl | rw [if_neg (by omega)]))
  have o9 : ∀ k, H 9 k = h 9 k := fun k => by rw [← hH]; simp only [hs_, hf_]; (repeat (first | rfl | rw [if_neg (by omega)]))
  have o12 : ∀ k, H 12 k = h 12 k := fun k => by rw [← hH]; simp only [hs_, hf_]; (repeat (first | rfl | rw [if_neg (by omega)]))
  have o14 : ∀ k, H 14 k = h 14 k := fun k => by rw [← hH]; simp only [hs_, hf_]; (repeat (first | rfl | rw [if_neg (by omega)]))
  have o15 : ∀ k, H 15 k = h 15 k := fun k => by rw [← hH]; simp only [hs_, hf_]; (repeat (first | rfl | rw [if_neg (by omega)]))
  have o16 : ∀ k, H 16 k = h 16 k := fun k => by rw [← hH]; simp only [hs_, hf_]; (repeat (first | rfl | rw [if_neg (by omega)]))
  have o17 : ∀ k, H 17 k = h 17 k := fun k => by rw [← hH]; simp only [hs_, hf_]; (repeat (first | rfl | rw [if_neg (by omega)]))
  have o19 : ∀ k, H 19 k = h 19 k := fun k => by rw [← hH]; simp only [hs_, hf_]; (repeat (first | rfl | rw [if_neg (by omega)]))
  have o20 : ∀ k, H 20 k = h 20 k := fun k => by rw [← hH]; simp only [hs_, hf_]; (repeat (first | rfl | rw [if_neg (by omega)]))
  have o21 : ∀ k, H 21 k = h 21 k := fun k => by rw [← hH]; simp only [hs_, hf_]; (repeat (first | rfl | rw [if_neg (by omega)]))
  have o41 : ∀ k, H 41 k = h 41 k := fun k => by rw [← hH]; simp only [hs_, hf_]; (repeat (first | rfl | rw [if_neg (by omega)]))
  have o121 : ∀ k, H 121 k = h 121 k := fun k => by rw [← hH]; simp only [hs_, hf_]; (repeat (first | rfl | rw [if_neg (by omega)]))
  have o100 : ∀ k, H 100 k = h 100 k := fun k => by rw [← hH]; simp only [hs_, hf_]; (repeat (first | rfl | rw [if_neg (by omega)]))
  have hbig : ∀ a k : Nat, 126 ≤ a → H a k = h a k := fun a k ha => by rw [← hH]; simp only [hs_, hf_]; (repeat (first | rfl | rw [if_neg (by omega)]))
  have hst : ∀ a k : Nat, 24 ≤ a → a ≤ 27 → H a k = h a k := fun a k ha hb => by rw [← hH]; simp only [hs_, hf_]; (repeat (first | rfl | rw [if_neg (by omega)]))
  have htp : ∀ a k : Nat, 69 ≤ a → a ≤ 80 → H a k = h a k := fun a k ha hb => by rw [← hH]; simp only [hs_, hf_]; (repeat (first | rfl | rw [if_neg (by omega)]))
  refine ⟨hT, ⟨?_, ?_, ?_, ?_, ?_, ?_, ?_, ?_, ?_, ?_, ?_, ?_, ?_, ?_, ?_, ?_, ?_, ?_, ?_, ?_, ?_, ?_, ?_, ?_, ?_, ?_, ?_, ?_, ?_, ?_, ?_, ?_⟩, ⟨?_, ?_, ?_, ?_, ?_, ?_, ?_, ?_, ?_, ?_, ?_, ?_, ?_, ?_, ?_, ?_, ?_, ?_, ?_, ?_, ?_, ?_, ?_, ?_, ?_, ?_, ?_, ?_, ?_⟩⟩
  · simp only [o81_0]; exact x.p_
  · simp only [o81_1]; exact x.n_
  · simp only [o81_1, o81_11]; exact x.d_
  · simp only [o81_1, o81_14]; exact x.s_
  · simp only [o81_1, o81_15]; exact x.r_
  · simp only [o81_20]; exact x.t_
  · simp only [o81_26]; exact x.f_
  · simp only [o81_27]; exact x.e_
  · simp only [o81_55]; exact x.a_
  · simp only [o82]; exact x.ki_
  · simp only [o83]; exact x.re_
  · simp only [o84]; exact x.pa_
  · intro k hk; rw [← hH]; have := x.wh_ k hk; simp only [hs_]; by_cases z : k = p; (subst z; simp <;> omega); (simp [z] <;> omega)
  · simp only [o81_1, o86]; exact x.ha_
  · simp only [o81_1, o86]; exact x.hi_
  · simp only [o87]; exact x.co_
  · simp only [o88]; exact x.le_
  · simp only [o89]; exact x.be_
  · simp only [o90]; exact x.cc_
  · simp only [o81_1, o81_14, o93]; exact x.st_
  · simp only [o94]; exact x.mk_
  · simp only [o95]; exact x.cr_
  · simp only [o96]; exact x.cm_
  · simp only [o97]; exact x.t7_
  · simp only [o98]; exact x.t8_
  · simp only [o99]; exact x.t9_
  · simp only [o81_26, o102]; exact x.ma_
  · simp only [o81_26, o102, o103]; exact x.to_
  · simp only [o104]; exact x.tx_
  · simp only [o122]; exact x.so_
  · simp only [o123]; exact x.si_
  · simp only [o124]; exact x.it_
  · simp only [o81_0, q0_1]; exact y.pc_
  · intro k hk; rw [o81_0] at hk; obtain ⟨o, p1, p2, p3, p4, p5, p6, p7⟩ := y.pe_ k hk; exact ⟨o, p1, p2, p3, by rw [hbig o 0 p2]; exact p4, by rw [hbig o 1 p2, o82]; exact p5, by rw [hbig o 2 p2, o83]; exact p6, by rw [hbig o 3 p2, o84]; exact p7⟩
  · simp only [o81_55, q2_1]; exact y.ra_
  · simp only [o3, o121]; exact y.tr_
  · intro k hk
    rw [o81_1] at hk
    rw [o86, y.nd_ hd k hk, ← hH]
    have e := y.wh_ k hk
    rw [y.nd_ hd k hk] at e
    by_cases z : k = p
    · subst z; rw [hs_eq, hs_na (by decide)]; exact hs_eq.symm
    · rw [hs_ni z, hs_na (by decide), hs_na (by decide), Int.toNat_natCast, hs_ni z]; exact e
  · intro k hk; rw [← hH]; have := y.wr_ k hk; simp only [hs_]; by_cases z : k = p; (subst z; simp <;> omega); (simp [z] <;> omega)
  · simp only [o87, o5]; exact y.co_
  · simp only [o81_1, o81_14, o81_15, q6_0, q6_1, q6_2]; exact y.fn_
  · simp only [o81_1, o86, o7]; exact y.or_
  · simp only [o81_1, o88, o8]; exact y.le_
  · simp only [o81_1, o94, o9]; exact y.mk_
  · simp only [o81_1, o81_11, q0_6]; exact y.da_
  · simp only [o81_1, o81_14, q11_1]; exact y.dc_
  · simp only [o81_1, o81_14, o93, o12]; exact y.dd_
  · simp only [o81_1, o81_15, q13_0, q13_1]; exact y.cn_
  · intro r p hr hp; rw [o81_15] at hr; rw [o81_1] at hp; rw [o14, o15, o16, o95, o96, f_top_k o81_1 o95 o96]; exact y.cl_ r p hr hp
  · simp only [o14, o15]; exact y.cr_
  · simp only [o17]; exact y.cc_
  · simp only [o81_1, o81_11, o81_15, o90, o17]; exact y.ce_
  · simp only [o81_20, q18_3, o97, o98, o99, o19, o20, o21]; exact y.pi_
  · intro hd; rw [o81_11] at hd; rw [o81_1, show t_0 H = t_0 h from by unfold t_0; rw [show H 89 = h 89 from funext o89]]; exact (y.sf_ hd).fr (fun b j b1 b2 => hst b j (by omega) (by omega))
  · rw [o81_26]; exact (y.fg_.fr q39_1 hbig).cg (fun f hf => figL_c (o102 f) (fun k hk => o103 _))
  · simp only [o81_27, q39_3, o104, o41]; exact y.tx_
  · intro t ht; have := y.tp_ t ht; rw [htp (69 + 2 * t) 0 (by omega) (by omega), htp (69 + 2 * t) 1 (by omega) (by omega), o122, o123]; refine ⟨this.1, this.2.1, fun i hi => ?_⟩; rw [htp (70 + 2 * t) i (by omega) (by omega), o124]; exact this.2.2 i hi
  · simp only [o81_1, o81_11, o86]; exact y.nd_
  · simp only [o122, o123]; exact y.sn_
  · intro r p hr hp; rw [o81_15] at hr; rw [o81_1] at hp ⊢; rw [o95]; exact y.ok_ r p hr hp
  · simp only [o100]; exact y.gs_
  · rw [o81_0, o81_26]; exact y.sz_
theorem op_stand {τ : TT} {h : HT} (s : SIM τ h) (p q : Int) (r_p : -2147483648 ≤ p ∧ p ≤ 2147483647) (r_q : -2147483648 ≤ q ∧ q ≤ 2147483647) : OPS mX11_stand mX12_stand 20 0 0 [.inl p, .inl q] τ h := by
  have s0 := s
  obtain ⟨hT, x, y⟩ := s
  have n9 := x.n9
  have p15 := x.p_
  refine OPS_f x (x_stand h p q) (fun g => f_stand g p q) (fun d => x_standM (d + 19) τ h hT x y p q r_p r_q) (fun a i z1 z2 => by unfold x_stand; (repeat (first | rfl | (apply (apply_ite (fun z : Int × HT => z.2 a i) _ _ _).trans; split))); all_goals (simp only [hs_, hf_]; (repeat (first | rfl | rw [if_neg (by omega)])))) (fun d x1 => m_stand (d + 18) τ _ hT p q r_p r_q x1.p_ x1.n9 x1.d1 x1.wh_ x1.ki_) ?_
  show (f_stand (x_stand h p q).2 p q).1 = (x_stand h p q).1 ∧ SIM τ (f_stand (x_stand h p q).2 p q).2
  unfold x_stand
  by_cases g1 : ¬ ((0 ≤ p ∧ p ≤ h 81 1 - 1) ∧ (0 ≤ q ∧ q ≤ h 81 0 - 1))
  · rw [if_pos g1]; show (f_stand h p q).1 = _ ∧ SIM τ (f_stand h p q).2; unfold f_stand; rw [if_pos g1]; exact ⟨rfl, s0⟩
  rw [if_neg g1]
  by_cases g2 : h 81 11 ≠ 0
  · rw [if_pos g2]; show (f_stand h p q).1 = _ ∧ SIM τ (f_stand h p q).2; unfold f_stand; rw [if_neg g1, if_pos g2]; exact ⟨rfl, s0⟩
  rw [if_neg g2]
  by_cases g3 : ∃ k, k < (h 81 1).toNat ∧ h 85 k = q
  · rw [if_pos g3]; show (f_stand h p q).1 = _ ∧ SIM τ (f_stand h p q).2; unfold f_stand; rw [if_neg g1, if_neg g2, if_pos g3]; exact ⟨rfl, s0⟩
  rw [if_neg g3]
  by_cases g4 : h 82 q.toNat = 4
  · rw [if_pos g4]; show (f_stand h p q).1 = _ ∧ SIM τ (f_stand h p q).2; unfold f_stand; rw [if_neg g1, if_neg g2, if_neg g3, if_pos g4]; exact ⟨rfl, s0⟩
  rw [if_neg g4]
  show (f_stand (hs_ h 4 p.toNat q) p q).1 = h 85 p.toNat ∧ SIM τ (f_stand (hs_ h 4 p.toNat q) p q).2
  have e : f_stand (hs_ h 4 p.toNat q) p q = (hs_ h 4 p.toNat q 85 p.toNat, hs_ (hs_ h 4 p.toNat q) 85 p.toNat q) := by
    unfold f_stand; simp only [hs_na (show (81 : Nat) ≠ 4 by decide), hs_na (show (85 : Nat) ≠ 4 by decide), hs_na (show (82 : Nat) ≠ 4 by decide)]; rw [if_neg g1, if_neg g2, if_neg g3, if_neg g4]
  rw [e]
  exact ⟨rfl, SIM_stand s0 (by omega) (by omega) (by omega)⟩
