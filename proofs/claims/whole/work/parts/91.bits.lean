/-! how many bits -/
theorem i32n (s : Nat) : (Int32.ofInt (s : Int)).toBitVec = BitVec.ofNat 32 s := by
  show BitVec.ofInt 32 (s : Int) = _
  exact BitVec.ofInt_natCast 32 s
theorem bvInt (s : Nat) (h : s < 2147483648) : (BitVec.ofNat 32 s).toInt = (s : Int) := by
  rw [BitVec.toInt_eq_toNat_of_lt (by rw [BitVec.toNat_ofNat]; omega), BitVec.toNat_ofNat]
  omega
theorem and_n (a b : Nat) (ha : a < 2147483648) : b_and a b = ((a &&& b : Nat) : Int) := by
  unfold b_and
  show (Int32.ofInt a &&& Int32.ofInt b).toBitVec.toInt = _
  rw [Int32.toBitVec_and, i32n, i32n, ← BitVec.ofNat_and, bvInt]
  exact Nat.lt_of_le_of_lt Nat.and_le_left ha
theorem shr_k : ∀ k : Nat, k < 32 → ((Int32.ofInt (k : Int) &&& 31).toBitVec.smod 32).toNat = k ∧ (((Int32.ofInt (k : Int)).toUInt32 &&& Int32.toUInt32 31).toBitVec % 32).toNat = k := by decide +kernel
theorem bvShr (s k : Nat) (h : s < 2147483648) : (BitVec.ofNat 32 s >>> k).toInt = ((s >>> k : Nat) : Int) := by
  have l : s >>> k ≤ s := by rw [Nat.shiftRight_eq_div_pow]; exact Nat.div_le_self _ _
  rw [BitVec.toInt_eq_toNat_of_lt (by rw [BitVec.toNat_ushiftRight, BitVec.toNat_ofNat, Nat.mod_eq_of_lt (by omega)]; omega), BitVec.toNat_ushiftRight, BitVec.toNat_ofNat, Nat.mod_eq_of_lt (by omega)]
theorem shr_n (s k : Nat) (h : s < 2147483648) (hk : k < 32) : b_shr s k = ((s >>> k : Nat) : Int) := by
  show (Int32.ofInt s >>> (Int32.ofInt k &&& 31)).toBitVec.toInt = _
  rw [Int32.toBitVec_shiftRight, i32n]
  show ((BitVec.ofNat 32 s).sshiftRight ((Int32.ofInt (k : Int) &&& 31).toBitVec.smod 32).toNat).toInt = _
  rw [(shr_k k hk).1, BitVec.sshiftRight_eq_of_msb_false (by rw [BitVec.msb_eq_false_iff_two_mul_lt, BitVec.toNat_ofNat]; omega)]
  exact bvShr s k h
theorem ushr_n (s k : Nat) (h : s < 2147483648) (hk : k < 32) : b_ushr s k = ((s >>> k : Nat) : Int) := by
  show ((Int32.ofInt s).toUInt32 >>> ((Int32.ofInt k).toUInt32 &&& Int32.toUInt32 31)).toBitVec.toInt = _
  rw [UInt32.toBitVec_shiftRight]
  show ((Int32.ofInt (s : Int)).toBitVec >>> (((Int32.ofInt k).toUInt32 &&& Int32.toUInt32 31).toBitVec % 32).toNat).toInt = _
  rw [(shr_k k hk).2, i32n]
  exact bvShr s k h
theorem ushr_neg (s : Int) (k : Nat) (h : -2147483648 ≤ s ∧ s < 0) (hk : k ≤ 15) : b_ushr s k ≠ 0 := by
  show ((Int32.ofInt s).toUInt32 >>> ((Int32.ofInt k).toUInt32 &&& Int32.toUInt32 31)).toBitVec.toInt ≠ _
  rw [UInt32.toBitVec_shiftRight]
  show ((BitVec.ofInt 32 s) >>> (((Int32.ofInt k).toUInt32 &&& Int32.toUInt32 31).toBitVec % 32).toNat).toInt ≠ _
  rw [(shr_k k (by omega)).2]
  intro e
  have e2 := congrArg (BitVec.ofInt 32) e
  rw [BitVec.ofInt_toInt] at e2
  have e3 := congrArg BitVec.toNat e2
  rw [BitVec.toNat_ushiftRight, BitVec.toNat_ofInt] at e3
  have e4 : (s % ((2 ^ 32 : Nat) : Int)).toNat >>> k = 0 := e3
  rw [Nat.shiftRight_eq_div_pow] at e4
  have e5 : 2 ^ k ≤ 2 ^ 15 := Nat.pow_le_pow_right (by decide) hk
  have e6 : 0 < 2 ^ k := Nat.two_pow_pos k
  have e7 := (Nat.div_eq_zero_iff).1 e4
  omega
theorem shr_ge (s k : Nat) (e : s >>> k = 0) (hk : k ≤ 15) : s < 32768 := by
  rw [Nat.shiftRight_eq_div_pow] at e
  have e5 : 2 ^ k ≤ 2 ^ 15 := Nat.pow_le_pow_right (by decide) hk
  have e6 : 0 < 2 ^ k := Nat.two_pow_pos k
  have e7 := (Nat.div_eq_zero_iff).1 e
  omega
theorem shr_up (s k j : Nat) (e : s >>> k = 0) : s >>> (k + j) = 0 := by
  rw [Nat.shiftRight_add, e, Nat.zero_shiftRight]
def nb_1 (v : Nat) : Nat := Nat.sub v (Nat.land (Nat.shiftRight v 1) 1431655765)
def nb_2 (v : Nat) : Nat := Nat.add (Nat.land v 858993459) (Nat.land (Nat.shiftRight v 2) 858993459)
def nb_3 (v : Nat) : Nat := Nat.land (Nat.add v (Nat.shiftRight v 4)) 252645135
def nb_4 (v : Nat) : Nat := Nat.add v (Nat.shiftRight v 8)
def nb_5 (v : Nat) : Nat := Nat.add v (Nat.shiftRight v 16)
def nb_F (v : Nat) : Nat := Nat.land (nb_5 (nb_4 (nb_3 (nb_2 (nb_1 v))))) 63
def nb_b (s k : Nat) : Nat := Nat.land (Nat.shiftRight s k) 1
def nb_c (s : Nat) : Nat := Nat.add (nb_b s 0) (Nat.add (nb_b s 1) (Nat.add (nb_b s 2) (Nat.add (nb_b s 3) (Nat.add (nb_b s 4) (Nat.add (nb_b s 5) (Nat.add (nb_b s 6) (Nat.add (nb_b s 7) (Nat.add (nb_b s 8) (Nat.add (nb_b s 9) (Nat.add (nb_b s 10) (Nat.add (nb_b s 11) (Nat.add (nb_b s 12) (Nat.add (nb_b s 13) (nb_b s 14))))))))))))))
def nb_k : Nat → Nat → Bool
  | 0, _ => true
  | k + 1, a => cond (Nat.beq (nb_F (Nat.add a k)) (nb_c (Nat.add a k))) (nb_k k a) false
def nb_q : Nat → Bool
  | 0 => true
  | k + 1 => cond (nb_k 256 (Nat.mul 256 k)) (nb_q k) false
theorem nb_all : nb_q 128 = true := by decide +kernel
theorem nb_k_ok : ∀ (k a : Nat), nb_k k a = true → ∀ j : Nat, j < k → nb_F (a + j) = nb_c (a + j)
  | 0, _, _, j, hj => absurd hj (Nat.not_lt_zero _)
  | k + 1, a, h, j, hj => by
    have h2 : cond (Nat.beq (nb_F (a + k)) (nb_c (a + k))) (nb_k k a) false = true := h
    cases e : Nat.beq (nb_F (a + k)) (nb_c (a + k)) with
    | false => rw [e] at h2; exact absurd (show false = true from h2) (by decide)
    | true =>
      rw [e] at h2
      by_cases z : j = k
      · rw [z]; exact Nat.eq_of_beq_eq_true e
      · exact nb_k_ok k a h2 j (by omega)
theorem nb_q_ok : ∀ k : Nat, nb_q k = true → ∀ j : Nat, j < 256 * k → nb_F j = nb_c j
  | 0, _, j, hj => absurd hj (Nat.not_lt_zero _)
  | k + 1, h, j, hj => by
    have h2 : cond (nb_k 256 (256 * k)) (nb_q k) false = true := h
    cases e : nb_k 256 (256 * k) with
    | false => rw [e] at h2; exact absurd (show false = true from h2) (by decide)
    | true =>
      rw [e] at h2
      by_cases z : j < 256 * k
      · exact nb_q_ok k h2 j z
      · have := nb_k_ok 256 (256 * k) e (j - 256 * k) (by omega)
        rwa [show 256 * k + (j - 256 * k) = j by omega] at this
theorem nb_is (s : Nat) (h : s < 32768) : nb_F s = nb_c s := nb_q_ok 128 nb_all s h
theorem shr_le (s k : Nat) : s >>> k ≤ s := by rw [Nat.shiftRight_eq_div_pow]; exact Nat.div_le_self _ _
theorem nb_F_n (s : Nat) (h : s < 32768) : bc_F s = ((nb_F s : Nat) : Int) := by
  have u : ∀ v k : Nat, v < 2147483648 → k < 32 → b_ushr (v : Int) ((k : Nat) : Int) = ((v >>> k : Nat) : Int) := ushr_n
  have w : ∀ a b : Nat, a < 2147483648 → b_and (a : Int) ((b : Nat) : Int) = ((a &&& b : Nat) : Int) := and_n
  have l1 : nb_1 s ≤ s := Nat.sub_le _ _
  have e1 : bc_1 s = ((nb_1 s : Nat) : Int) := by
    have a : s >>> 1 &&& 1431655765 ≤ s >>> 1 := Nat.and_le_left
    have b := shr_le s 1
    show (s : Int) - b_and (b_ushr s ((1 : Nat) : Int)) ((1431655765 : Nat) : Int) = ((s - (s >>> 1 &&& 1431655765) : Nat) : Int)
    rw [u s 1 (by omega) (by decide), w _ _ (by omega)]
    omega
  have l2 : nb_2 (nb_1 s) ≤ 2 * s := by
    have a : nb_1 s &&& 858993459 ≤ nb_1 s := Nat.and_le_left
    have b : nb_1 s >>> 2 &&& 858993459 ≤ nb_1 s >>> 2 := Nat.and_le_left
    have c := shr_le (nb_1 s) 2
    show (nb_1 s &&& 858993459) + (nb_1 s >>> 2 &&& 858993459) ≤ _
    omega
  have e2 : bc_2 (bc_1 s) = ((nb_2 (nb_1 s) : Nat) : Int) := by
    rw [e1]
    have c := shr_le (nb_1 s) 2
    show b_and (nb_1 s : Int) ((858993459 : Nat) : Int) + b_and (b_ushr (nb_1 s : Int) ((2 : Nat) : Int)) ((858993459 : Nat) : Int) = (((nb_1 s &&& 858993459) + (nb_1 s >>> 2 &&& 858993459) : Nat) : Int)
    rw [u _ 2 (by omega) (by decide), w _ _ (by omega), w _ _ (by omega)]
    omega
  have l3 : nb_3 (nb_2 (nb_1 s)) ≤ 4 * s := by
    have c := shr_le (nb_2 (nb_1 s)) 4
    have a : nb_2 (nb_1 s) + nb_2 (nb_1 s) >>> 4 &&& 252645135 ≤ nb_2 (nb_1 s) + nb_2 (nb_1 s) >>> 4 := Nat.and_le_left
    show nb_2 (nb_1 s) + nb_2 (nb_1 s) >>> 4 &&& 252645135 ≤ _
    omega
  have e3 : bc_3 (bc_2 (bc_1 s)) = ((nb_3 (nb_2 (nb_1 s)) : Nat) : Int) := by
    rw [e2]
    have c := shr_le (nb_2 (nb_1 s)) 4
    show b_and ((nb_2 (nb_1 s) : Int) + b_ushr (nb_2 (nb_1 s) : Int) ((4 : Nat) : Int)) ((252645135 : Nat) : Int) = ((nb_2 (nb_1 s) + nb_2 (nb_1 s) >>> 4 &&& 252645135 : Nat) : Int)
    rw [u _ 4 (by omega) (by decide), ← Int.natCast_add, w _ _ (by omega)]
  have l4 : nb_4 (nb_3 (nb_2 (nb_1 s))) ≤ 8 * s := by
    have c := shr_le (nb_3 (nb_2 (nb_1 s))) 8
    show nb_3 (nb_2 (nb_1 s)) + nb_3 (nb_2 (nb_1 s)) >>> 8 ≤ _
    omega
  have e4 : bc_4 (bc_3 (bc_2 (bc_1 s))) = ((nb_4 (nb_3 (nb_2 (nb_1 s))) : Nat) : Int) := by
    rw [e3]
    show ((nb_3 (nb_2 (nb_1 s)) : Nat) : Int) + b_ushr ((nb_3 (nb_2 (nb_1 s)) : Nat) : Int) ((8 : Nat) : Int) = ((nb_3 (nb_2 (nb_1 s)) + nb_3 (nb_2 (nb_1 s)) >>> 8 : Nat) : Int)
    rw [u _ 8 (by omega) (by decide), ← Int.natCast_add]
  have l5 : nb_5 (nb_4 (nb_3 (nb_2 (nb_1 s)))) ≤ 16 * s := by
    have c := shr_le (nb_4 (nb_3 (nb_2 (nb_1 s)))) 16
    show nb_4 (nb_3 (nb_2 (nb_1 s))) + nb_4 (nb_3 (nb_2 (nb_1 s))) >>> 16 ≤ _
    omega
  have e5 : bc_5 (bc_4 (bc_3 (bc_2 (bc_1 s)))) = ((nb_5 (nb_4 (nb_3 (nb_2 (nb_1 s)))) : Nat) : Int) := by
    rw [e4]
    show ((nb_4 (nb_3 (nb_2 (nb_1 s))) : Nat) : Int) + b_ushr ((nb_4 (nb_3 (nb_2 (nb_1 s))) : Nat) : Int) ((16 : Nat) : Int) = ((nb_4 (nb_3 (nb_2 (nb_1 s))) + nb_4 (nb_3 (nb_2 (nb_1 s))) >>> 16 : Nat) : Int)
    rw [u _ 16 (by omega) (by decide), ← Int.natCast_add]
  show b_and (bc_5 (bc_4 (bc_3 (bc_2 (bc_1 s))))) ((63 : Nat) : Int) = ((nb_5 (nb_4 (nb_3 (nb_2 (nb_1 s)))) &&& 63 : Nat) : Int)
  rw [e5, w _ _ (by omega)]
theorem f_B_n (s k : Nat) (h : s < 2147483648) (hk : k < 32) : f_B s k = ((nb_b s k : Nat) : Int) := by
  show b_and (b_shr (s : Int) (k : Int)) ((1 : Nat) : Int) = _
  have := shr_le s k
  rw [shr_n s k h hk, and_n _ _ (by omega)]
  rfl
theorem nb_b_1 (s k : Nat) : nb_b s k ≤ 1 := Nat.and_le_right
theorem f_cn_n (s k : Nat) (h : s < 2147483648) (hk : k < 32) : f_cn (f_B s) (k + 1) = f_cn (f_B s) k + nb_b s k := by
  show f_cn (f_B s) k + (if f_B s k = 0 then 0 else 1) = _
  have := nb_b_1 s k
  rw [f_B_n s k h hk]
  split <;> omega
theorem bc_cn (s : Nat) (h : s < 32768) : bc_F s = ((f_cn (f_B s) 15 : Nat) : Int) := by
  have g : s < 2147483648 := by omega
  rw [nb_F_n s h, nb_is s h, f_cn_n s 14 g (by decide), f_cn_n s 13 g (by decide), f_cn_n s 12 g (by decide), f_cn_n s 11 g (by decide), f_cn_n s 10 g (by decide), f_cn_n s 9 g (by decide), f_cn_n s 8 g (by decide), f_cn_n s 7 g (by decide), f_cn_n s 6 g (by decide), f_cn_n s 5 g (by decide), f_cn_n s 4 g (by decide), f_cn_n s 3 g (by decide), f_cn_n s 2 g (by decide), f_cn_n s 1 g (by decide), f_cn_n s 0 g (by decide), show f_cn (f_B s) 0 = 0 from rfl]
  show ((nb_b s 0 + (nb_b s 1 + (nb_b s 2 + (nb_b s 3 + (nb_b s 4 + (nb_b s 5 + (nb_b s 6 + (nb_b s 7 + (nb_b s 8 + (nb_b s 9 + (nb_b s 10 + (nb_b s 11 + (nb_b s 12 + (nb_b s 13 + nb_b s 14))))))))))))) : Nat) : Int) = _
  omega
theorem f_cn_top (s k : Nat) (h : s < 2147483648) (e : s >>> k = 0) : ∀ j : Nat, k + j ≤ 15 → f_cn (f_B s) (k + j) = f_cn (f_B s) k
  | 0, _ => rfl
  | j + 1, hj => by
    have z : nb_b s (k + j) = 0 := by
      show s >>> (k + j) &&& 1 = 0
      rw [shr_up s k j e]; rfl
    rw [show k + (j + 1) = k + j + 1 from rfl, f_cn_n s (k + j) h (by omega), f_cn_top s k h e j (by omega), z, Nat.add_zero]
theorem bits_ok (s : Int) (r : -2147483648 ≤ s ∧ s ≤ 2147483647) (k : Nat) (hk : k ≤ 15) : b_ushr s (k : Int) = 0 ↔ (0 ≤ s ∧ b_shr s (k : Int) = 0) := by
  by_cases z : 0 ≤ s
  · obtain ⟨n, rfl⟩ : ∃ n : Nat, s = (n : Int) := ⟨s.toNat, by omega⟩
    rw [ushr_n n k (by omega) (by omega), shr_n n k (by omega) (by omega)]
    exact ⟨fun e => ⟨z, e⟩, fun e => e.2⟩
  · exact ⟨fun e => absurd e (ushr_neg s k (by omega) hk), fun e => absurd e.1 z⟩
theorem bits_cn (s : Int) (r : -2147483648 ≤ s ∧ s ≤ 2147483647) (k : Nat) (hk : k ≤ 15) (q : 0 ≤ s ∧ b_shr s (k : Int) = 0) : bc_F s = ((f_cn (f_B s) k : Nat) : Int) := by
  obtain ⟨n, rfl⟩ : ∃ n : Nat, s = (n : Int) := ⟨s.toNat, by omega⟩
  have e := q.2
  rw [shr_n n k (by omega) (by omega)] at e
  have e2 : n >>> k = 0 := by omega
  rw [bc_cn n (shr_ge n k e2 hk), ← f_cn_top n k (by omega) e2 (15 - k) (by omega), show k + (15 - k) = 15 by omega]
theorem bits_B (s : Int) (q : 0 ≤ s ∧ s ≤ 2147483647) (k : Nat) (hk : k ≤ 15) : b_and (b_ushr s (k : Int)) 1 = f_B s k := by
  obtain ⟨n, rfl⟩ : ∃ n : Nat, s = (n : Int) := ⟨s.toNat, by omega⟩
  unfold f_B
  rw [ushr_n n k (by omega) (by omega), shr_n n k (by omega) (by omega)]

