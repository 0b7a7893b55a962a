/-! fewest, pure -/
/-- D tells how far every order is -/
def BF (n : Nat) (D : (Nat → Int) → Int) : Prop :=
  (∀ o o' : Nat → Int, (∀ p : Nat, p < n → o p = o' p) → D o = D o') ∧
  (∀ o : Nat → Int, isP n o → 0 ≤ D o ∧ D o ≤ 40) ∧
  (∀ (o : Nat → Int) (p : Nat), isP n o → p < n → D (f_sw n o p) ≤ D o + 1) ∧
  (∀ o : Nat → Int, isP n o → 0 < D o → ∃ p : Nat, p < n ∧ D (f_sw n o p) = D o - 1)
def f_up (f : Nat → Int) (i : Nat) (v : Int) (j : Nat) : Int := if j = i then v else f j
theorem c_lt_up (f : Nat → Int) (r : Nat) (v : Int) (h1 : f r < 0) (h2 : 0 ≤ v) : ∀ m : Nat, c_lt (f_up f r v) 0 m + (if r < m then 1 else 0) = c_lt f 0 m
  | 0 => rfl
  | m + 1 => by
    have ih := c_lt_up f r v h1 h2 m
    show c_lt (f_up f r v) 0 m + (if f_up f r v m < 0 then 1 else 0) + _ = c_lt f 0 m + if f m < 0 then 1 else 0
    unfold f_up at *
    by_cases a : m = r
    · subst a
      rw [if_pos rfl, if_neg (by omega), if_pos (by omega), if_pos h1]
      rw [if_neg (by omega)] at ih
      omega
    · rw [if_neg a]
      by_cases b : r < m
      · rw [if_pos b] at ih; rw [if_pos (show r < m + 1 by omega)]; omega
      · rw [if_neg b] at ih; rw [if_neg (show ¬ r < m + 1 by omega)]; omega
def BS (n : Nat) (D : (Nat → Int) → Int) (far line : Nat → Int) (fr to : Nat) : Prop :=
  (∀ o : Nat → Int, isP n o → far (rk_ n o) = -1 ∨ (far (rk_ n o) = D o ∧ ∃ i : Nat, i < to ∧ line i = rk_ n o)) ∧
  (∀ i : Nat, i < to → ∃ o : Nat → Int, isP n o ∧ line i = rk_ n o ∧ far (rk_ n o) = D o) ∧
  (∀ i j : Nat, i ≤ j → j < to → far (line i).toNat ≤ far (line j).toNat) ∧
  (∀ i : Nat, i < fr → ∀ o : Nat → Int, isP n o → line i = rk_ n o → ∀ p : Nat, p < n → far (rk_ n (f_sw n o p)) ≠ -1) ∧
  (fr < to → ∀ j : Nat, j < to → far (line j).toNat ≤ far (line fr).toNat + 1) ∧
  (fr < to → ∀ o : Nat → Int, isP n o → D o ≤ far (line fr).toNat → far (rk_ n o) ≠ -1) ∧
  (to + c_lt far 0 (f_P n n) = f_P n n ∧ fr ≤ to) ∧
  (∀ o : Nat → Int, isP n o → D o = 0 → far (rk_ n o) ≠ -1)
theorem rk_N {n : Nat} (o : Nat → Int) : rk_ n o < f_P n n := f_rk_lt o n (Nat.le_refl _)
theorem bs_at {n : Nat} {D : (Nat → Int) → Int} {far line : Nat → Int} {fr to : Nat} (x : BS n D far line fr to) {i : Nat} (hi : i < to) {u : Nat → Int} (hu : isP n u) (e : line i = rk_ n u) (bf : BF n D) : far (rk_ n u) = D u := by
  obtain ⟨o, o1, o2, o3⟩ := x.2.1 i hi
  have e2 : rk_ n o = rk_ n u := by omega
  rw [← e2, o3]
  exact bf.1 _ _ (rk_inj o1 hu e2 n (Nat.le_refl _))
theorem bs_new {n : Nat} {D : (Nat → Int) → Int} {far line : Nat → Int} {fr to : Nat} (hn : 2 ≤ n) (bf : BF n D) (x : BS n D far line fr to) (hf : fr < to) {u : Nat → Int} (hu : isP n u) (e : line fr = rk_ n u) {p : Nat} (hp : p < n) (hr : far (rk_ n (f_sw n u p)) < 0) :
    BS n D (f_up far (rk_ n (f_sw n u p)) (D u + 1)) (f_up line to (rk_ n (f_sw n u p) : Nat)) fr (to + 1) := by
  have hs := f_sw_P hu hp hn
  have fu := bs_at x hf hu e bf
  obtain ⟨A, B, C, E, F, G, ⟨H, H2⟩, I⟩ := x
  have d0 := (bf.2.1 u hu).1
  have d1 := (bf.2.1 _ hs).1
  have r1 : far (rk_ n (f_sw n u p)) = -1 := by
    rcases A _ hs with z | z
    · exact z
    · omega
  have ee : far (line fr).toNat = D u := by rw [e]; exact fu
  have ds : D (f_sw n u p) = D u + 1 := by
    have l := bf.2.2.1 u p hu hp
    have := G hf _ hs
    rw [ee] at this
    rcases Int.lt_or_le (D u) (D (f_sw n u p)) with z | z
    · omega
    · exact absurd r1 (this z)
  have nr : ∀ i : Nat, i < to → (line i).toNat ≠ rk_ n (f_sw n u p) := fun i hi q => by
    obtain ⟨o, o1, o2, o3⟩ := B i hi
    have := (bf.2.1 o o1).1
    rw [show rk_ n o = rk_ n (f_sw n u p) by omega] at o3
    omega
  generalize hR : rk_ n (f_sw n u p) = R at *
  have hRN : R < f_P n n := by rw [← hR]; exact rk_N _
  have keep : ∀ j : Nat, far j ≠ -1 → f_up far R (D u + 1) j ≠ -1 := fun j hj => by unfold f_up; split <;> omega
  have old : ∀ i : Nat, i < to → f_up far R (D u + 1) (f_up line to (R : Nat) i).toNat = far (line i).toNat := fun i hi => by
    unfold f_up; rw [if_neg (show ¬ i = to by omega), if_neg (nr i hi)]
  have new : f_up far R (D u + 1) (f_up line to (R : Nat) to).toNat = D u + 1 := by
    unfold f_up; rw [if_pos rfl, if_pos (by omega)]
  refine ⟨fun o ho => ?_, fun i hi => ?_, fun i j hij hj => ?_, fun i hi o ho eo q hq => ?_, fun _ j hj => ?_, fun _ o ho hd => ?_, ⟨?_, by omega⟩, fun o ho hd => keep _ (I o ho hd)⟩
  · by_cases q : rk_ n o = R
    · refine Or.inr ⟨?_, to, by omega, ?_⟩
      · unfold f_up; rw [if_pos q, ← ds]; exact (bf.1 _ _ (rk_inj ho hs (by omega) n (Nat.le_refl _))).symm
      · unfold f_up; rw [if_pos rfl, q]
    · rcases A o ho with z | ⟨z1, i, z2, z3⟩
      · left; unfold f_up; rw [if_neg q]; exact z
      · refine Or.inr ⟨by unfold f_up; rw [if_neg q]; exact z1, i, by omega, ?_⟩
        unfold f_up; rw [if_neg (by omega)]; exact z3
  · rcases Nat.lt_succ_iff_lt_or_eq.mp hi with z | z
    · obtain ⟨o, o1, o2, o3⟩ := B i z
      refine ⟨o, o1, ?_, ?_⟩
      · unfold f_up; rw [if_neg (by omega)]; exact o2
      · have := nr i z; unfold f_up; rw [if_neg (by omega)]; exact o3
    · subst z
      refine ⟨_, hs, ?_, ?_⟩
      · unfold f_up; rw [if_pos rfl, hR]
      · unfold f_up; rw [if_pos hR]; exact ds.symm
  · rcases Nat.lt_succ_iff_lt_or_eq.mp hj with z | z
    · rw [old i (by omega), old j z]; exact C i j hij z
    · subst z
      rw [new]
      by_cases w : i = j
      · subst w; rw [new]; exact Int.le_refl _
      · rw [old i (by omega)]; have := F hf i (by omega); omega
  · have eo2 : line i = rk_ n o := by unfold f_up at eo; rwa [if_neg (by omega)] at eo
    exact keep _ (E i hi o ho eo2 q hq)
  · rw [old fr hf]
    rcases Nat.lt_succ_iff_lt_or_eq.mp hj with z | z
    · rw [old j z]; exact F hf j z
    · subst z; rw [new, ee]; exact Int.le_refl _
  · rw [old fr hf] at hd
    exact keep _ (G hf o ho hd)
  · have := c_lt_up far R (D u + 1) (by omega) (by omega) (f_P n n)
    rw [if_pos hRN] at this
    omega
theorem bs_room {n : Nat} {D : (Nat → Int) → Int} {far line : Nat → Int} {fr to : Nat} (x : BS n D far line fr to) {r : Nat} (hr : r < f_P n n) (h : far r < 0) : to < f_P n n := by
  have := c_lt_up far r 0 h (Int.le_refl _) (f_P n n)
  rw [if_pos hr] at this
  have := x.2.2.2.2.2.2.1.1
  omega
theorem bs_next {n : Nat} {D : (Nat → Int) → Int} {far line : Nat → Int} {fr to : Nat} (hn : 2 ≤ n) (bf : BF n D) (x : BS n D far line fr to) (hf : fr < to) {u : Nat → Int} (hu : isP n u) (e : line fr = rk_ n u) (hv : ∀ p : Nat, p < n → far (rk_ n (f_sw n u p)) ≠ -1) : BS n D far line (fr + 1) to := by
  have fu := bs_at x hf hu e bf
  have x0 := x
  obtain ⟨A, B, C, E, F, G, ⟨H, H2⟩, I⟩ := x
  have E2 : ∀ i : Nat, i < fr + 1 → ∀ o : Nat → Int, isP n o → line i = rk_ n o → ∀ p : Nat, p < n → far (rk_ n (f_sw n o p)) ≠ -1 := fun i hi o ho eo p hp => by
    rcases Nat.lt_succ_iff_lt_or_eq.mp hi with z | z
    · exact E i z o ho eo p hp
    · subst z
      have q := rk_inj ho hu (by omega) n (Nat.le_refl _)
      have : rk_ n (f_sw n o p) = rk_ n (f_sw n u p) := f_rk_c (fun j hj => by unfold f_sw; rw [q p hp, q j hj, q _ (show (if p + 1 = n then 0 else p + 1) < n by split <;> omega)]) n (Nat.le_refl _)
      rw [this]; exact hv p hp
  have ee : far (line fr).toNat = D u := by rw [e]; exact fu
  refine ⟨A, B, C, E2, fun h2 j hj => ?_, fun h2 o ho hd => ?_, ⟨H, by omega⟩, I⟩
  · have := F hf j hj; have := C fr (fr + 1) (by omega) h2; omega
  · rcases Int.lt_or_le (D u) (D o) with z | z
    · have h3 := F hf (fr + 1) h2
      have h0 := (bf.2.1 u hu).1
      obtain ⟨p, hp, dp⟩ := bf.2.2.2 o ho (by omega)
      have hs := f_sw_P ho hp hn
      have v := G hf _ hs (by omega)
      rcases A _ hs with w | ⟨w1, i, w2, w3⟩
      · exact absurd w v
      · have hi : i < fr + 1 := by
          rcases Nat.lt_or_ge i (fr + 1) with y | y
          · exact y
          · have := C (fr + 1) i y w2
            rw [w3] at this
            have e3 : (((rk_ n (f_sw n o p) : Nat) : Int)).toNat = rk_ n (f_sw n o p) := by omega
            rw [e3] at this
            omega
        have := E2 i hi _ hs w3 p hp
        rwa [show rk_ n (f_sw n (f_sw n o p) p) = rk_ n o from f_rk_c (fun j hj => f_sw_sw hp hn j) n (Nat.le_refl _)] at this
    · exact G hf o ho (by omega)
theorem bs_end {n : Nat} {D : (Nat → Int) → Int} {far line : Nat → Int} {fr to : Nat} (hn : 2 ≤ n) (bf : BF n D) (x : BS n D far line fr to) (hf : to ≤ fr) : ∀ (k : Nat) (o : Nat → Int), isP n o → D o = k → far (rk_ n o) = D o
  | 0, o, ho, hk => by
    rcases x.1 o ho with z | z
    · exact absurd z (x.2.2.2.2.2.2.2 o ho hk)
    · exact z.1
  | k + 1, o, ho, hk => by
    obtain ⟨p, hp, dp⟩ := bf.2.2.2 o ho (by omega)
    have hs := f_sw_P ho hp hn
    have ih := bs_end hn bf x hf k _ hs (by omega)
    have q : far (rk_ n o) ≠ -1 := by
      rcases x.1 _ hs with w | ⟨w1, i, w2, w3⟩
      · omega
      · have := x.2.2.2.1 i (by omega) _ hs w3 p hp
        rwa [show rk_ n (f_sw n (f_sw n o p) p) = rk_ n o from f_rk_c (fun j hj => f_sw_sw hp hn j) n (Nat.le_refl _)] at this
    rcases x.1 o ho with z | z
    · exact absurd z q
    · exact z.1
theorem c_lt_all (f : Nat → Int) : ∀ m : Nat, (∀ j : Nat, j < m → f j = -1) → c_lt f 0 m = m
  | 0, _ => rfl
  | m + 1, h => by
    unfold c_lt
    rw [c_lt_all f m (fun j hj => h j (by omega)), if_pos (by have := h m (by omega); omega)]
theorem bs_first {n : Nat} {D : (Nat → Int) → Int} {far line g : Nat → Int} (bf : BF n D) (hg : isP n g) (h0 : D g = 0) (hz : ∀ o : Nat → Int, isP n o → D o = 0 → ∀ p : Nat, p < n → o p = g p) (hf : ∀ r : Nat, r < f_P n n → far r = -1) (hl : line 0 = rk_ n g) : BS n D (f_up far (rk_ n g) 0) line 0 1 := by
  have q : ∀ o : Nat → Int, isP n o → rk_ n o = rk_ n g → D o = 0 := fun o ho e => by
    rw [← h0]; exact bf.1 _ _ (rk_inj ho hg e n (Nat.le_refl _))
  have up : f_up far (rk_ n g) 0 (rk_ n g) = 0 := if_pos rfl
  refine ⟨fun o ho => ?_, fun i hi => ?_, fun i j hij hj => ?_, fun i hi => absurd hi (Nat.not_lt_zero _), fun _ j hj => ?_, fun _ o ho hd => ?_, ⟨?_, by omega⟩, fun o ho hd => ?_⟩
  · by_cases e : rk_ n o = rk_ n g
    · exact Or.inr ⟨by rw [e, up]; exact (q o ho e).symm, 0, by omega, by rw [hl, e]⟩
    · left; unfold f_up; rw [if_neg e]; exact hf _ (rk_N o)
  · obtain rfl : i = 0 := by omega
    exact ⟨g, hg, hl, by rw [up, h0]⟩
  · obtain rfl : i = j := by omega
    exact Int.le_refl _
  · obtain rfl : j = 0 := by omega
    omega
  · rw [hl, Int.toNat_natCast, up] at hd
    have := (bf.2.1 o ho).1
    have e := hz o ho (by omega)
    rw [show rk_ n o = rk_ n g from f_rk_c e n (Nat.le_refl _), up]; omega
  · have := c_lt_up far (rk_ n g) 0 (by rw [hf _ (rk_N g)]; omega) (Int.le_refl _) (f_P n n)
    rw [if_pos (rk_N g), c_lt_all far _ hf] at this
    have := rk_N (n := n) g
    omega
  · rw [show rk_ n o = rk_ n g from f_rk_c (hz o ho hd) n (Nat.le_refl _), up]; omega
