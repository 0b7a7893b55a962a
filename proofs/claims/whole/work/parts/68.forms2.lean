/-! forms: the steps of the word, pure -/
theorem x10_cd {n p how : Int} (hn : 3 ≤ n ∧ n ≤ 9) (hp : 0 ≤ p ∧ p < n) (hh : how = 0 ∨ how = 1) : w_cd n (10 * p + how) ∧ (10 * p + how).tdiv 10 = p := by
  have xd : (10 * p + how).tdiv 10 = p := by rw [Int.tdiv_eq_ediv_of_nonneg (by omega)]; omega
  have xm : (10 * p + how).tmod 10 = how := by rw [Int.tmod_eq_emod_of_nonneg (by omega)]; omega
  refine ⟨⟨by omega, by omega, by rw [xd]; omega, by rw [xm]; exact hh⟩, xd⟩
theorem WI.add {n : Int} {L : Nat} {W Lk E W' Lk' E' : Nat → Int} {m : Nat} {F : Nat → Int} (w : WI n L W Lk E m F) (hn : 3 ≤ n ∧ n ≤ 9) {p how : Int} (hp : 0 ≤ p ∧ p < n) (hh : how = 0 ∨ how = 1) (no : ¬ w_hit n m F (10 * p + how)) (eW : ∀ i : Nat, i < L → W' i = W i) (eWL : W' L = 10 * p + how) (eL : ∀ i : Nat, i < L → Lk' i = Lk i) (eLL : Lk' L = E p.toNat) (eE : ∀ q : Nat, (q : Int) < n → q ≠ p.toNat → E' q = E q) (eEp : E' p.toNat = (L : Int)) : WI n (L + 1) W' Lk' E' (w_m n m F (10 * p + how)) (w_F n m F (10 * p + how)) := by
  obtain ⟨xc, xd⟩ := x10_cd hn hp hh
  have em : w_m n m F (10 * p + how) = m + 1 := if_neg no
  have eF : ∀ j, w_F n m F (10 * p + how) j = if j = m then 10 * p + how else F j := fun j => if_neg no
  have eA : ∀ i : Nat, i < L → AL W' i = AL W i := fun i hi => by unfold AL; rw [eW i hi]
  have rL : rq (AL W') L = rq (AL W) L := rq_c eA L (Nat.le_refl _)
  have cm := w.cm
  have c1 := cm.1
  have eP : ((p.toNat : Nat) : Int) = p := by omega
  refine ⟨⟨?_, fun i hi ai => ?_⟩, fun j hj => ?_, fun q hq => ?_, fun i hi ai => ?_, fun i hi => ?_⟩
  · rw [em]
    show 0 + (rq (AL W') L + if AL W' L = true then 1 else 0) = m + 1
    rw [rL, if_pos (AL_t.mpr (by rw [eWL]; omega))]; omega
  · rw [eF]
    rcases Nat.lt_succ_iff_lt_or_eq.mp hi with z | z
    · have a := ai; rw [eA i z] at a
      have := cm.lt z a
      rw [rq_c eA i (by omega), if_neg (by omega), cm.2 i z a, eW i z]
    · subst z; rw [rL, if_pos (by omega), eWL]
  · rw [em] at hj; rw [eF]
    by_cases z : j = m
    · rw [if_pos z]; exact xc
    · rw [if_neg z]; exact w.ok j (by omega)
  · by_cases z : q = p.toNat
    · subst z
      rw [eEp, Int.toNat_natCast]
      refine ⟨by omega, by omega, fun _ => by rw [eWL, xd]; omega, fun i hi _ _ => by omega⟩
    · have ed := w.ed q hq
      rw [eE q hq z]
      refine ⟨ed.1, by omega, fun h0 => ?_, fun i hi ai pi => ?_⟩
      · rw [eW _ (by omega)]; exact ed.2.2.1 h0
      · rcases Nat.lt_succ_iff_lt_or_eq.mp hi with y | y
        · rw [eW i y] at ai pi; exact ed.2.2.2 i y ai pi
        · subst y; rw [eWL, xd] at pi; omega
  · rcases Nat.lt_succ_iff_lt_or_eq.mp hi with y | y
    · rw [eW i y] at ai
      have lk := w.lk i y ai
      rw [eL i y, eW i y]
      refine ⟨lk.1, lk.2.1, fun h0 => ?_, fun j hj aj pj => ?_⟩
      · rw [eW _ (by omega)]; exact lk.2.2.1 h0
      · rw [eW j (by omega)] at aj pj; exact lk.2.2.2 j hj aj pj
    · subst y
      have ed := w.ed p.toNat (by omega)
      rw [eLL, eWL, xd]
      rw [eP] at ed
      refine ⟨ed.1, ed.2.1, fun h0 => ?_, fun j hj aj pj => ?_⟩
      · rw [eW _ (by omega)]; exact ed.2.2.1 h0
      · rw [eW j hj] at aj pj; exact ed.2.2.2 j hj aj pj
  · rcases Nat.lt_succ_iff_lt_or_eq.mp hi with y | y
    · rw [eW i y]; exact w.lo i y
    · subst y; rw [eWL]; omega
theorem WI.cut {n : Int} {L : Nat} {W Lk E W' Lk' E' : Nat → Int} {m : Nat} {F : Nat → Int} (w : WI n L W Lk E m F) (hn : 3 ≤ n ∧ n ≤ 9) {p how : Int} (hp : 0 ≤ p ∧ p < n) (hh : how = 0 ∨ how = 1) (hit : w_hit n m F (10 * p + how)) (eW : ∀ i : Nat, i < L → i ≠ (E p.toNat).toNat → W' i = W i) (eWL : W' (E p.toNat).toNat = -1) (eL : ∀ i : Nat, i < L → Lk' i = Lk i) (eE : ∀ q : Nat, (q : Int) < n → q ≠ p.toNat → E' q = E q) (eEp : E' p.toNat = Lk (E p.toNat).toNat) : WI n L W' Lk' E' (w_m n m F (10 * p + how)) (w_F n m F (10 * p + how)) := by
  have hc := (w.hit hn hp hh).mp hit
  have hl := w.last hn hp hh hit
  have em : w_m n m F (10 * p + how) = m - 1 := if_pos hit
  have eF : ∀ j, w_F n m F (10 * p + how) j = if j < w_last n F (10 * p + how) m - 1 then F j else F (j + 1) := fun j => if_pos hit
  have cm := w.cm
  have c1 := cm.1
  have eP : ((p.toNat : Nat) : Int) = p := by omega
  have ep := w.ed p.toNat (by omega)
  rw [eP] at ep
  obtain ⟨l1, l2⟩ := ep.2.2.1 hc.1
  generalize hi0 : (E p.toNat).toNat = i0 at *
  have lL : i0 < L := by omega
  have a0 : AL W i0 = true := AL_t.mpr l1
  have q0 : AL W' i0 = false := by unfold AL; rw [eWL]; decide
  have eA : ∀ i : Nat, i < L → i ≠ i0 → AL W i = AL W' i := fun i hi ne => by unfold AL; rw [eW i hi ne]
  have ro := rq_out a0 q0 eA
  have aw : ∀ {i : Nat}, i < L → 0 ≤ W' i → i ≠ i0 ∧ 0 ≤ W i := fun {i} hi ai => by
    by_cases z : i = i0
    · subst z; rw [eWL] at ai; omega
    · rw [eW i hi z] at ai; exact ⟨z, ai⟩
  refine ⟨⟨?_, fun i hi ai => ?_⟩, fun j hj => ?_, fun q hq => ?_, fun i hi ai => ?_, fun i hi => ?_⟩
  · have := ro L (Nat.le_refl _); rw [if_pos lL] at this; omega
  · obtain ⟨ne, ai'⟩ := aw hi (AL_t.mp ai)
    have ai2 := AL_t.mpr ai'
    have := ro i (by omega)
    have f := cm.2 i hi ai2
    rw [eF, eW i hi ne, ← f, hl]
    by_cases z : i0 < i
    · rw [if_pos z] at this
      have := rq_lt z a0
      rw [if_neg (by omega)]
      congr 1; omega
    · rw [if_neg z] at this
      have := rq_lt (show i < i0 by omega) ai2
      rw [if_pos (by omega)]
      congr 1; omega
  · rw [em] at hj; rw [eF]
    split
    · exact w.ok j (by omega)
    · exact w.ok (j + 1) (by omega)
  · by_cases z : q = p.toNat
    · subst z
      have lk := w.lk i0 lL l1
      rw [eEp, eP]
      refine ⟨lk.1, by omega, fun h0 => ?_, fun i hi ai pi => ?_⟩
      · rw [eW _ (by omega) (by omega), (lk.2.2.1 h0).2, l2]
        exact ⟨(lk.2.2.1 h0).1, rfl⟩
      · obtain ⟨ne, ai'⟩ := aw hi ai
        rw [eW i hi ne] at pi
        have := ep.2.2.2 i hi ai' pi
        exact lk.2.2.2 i (by omega) ai' (by rw [pi, l2])
    · have ed := w.ed q hq
      rw [eE q hq z]
      refine ⟨ed.1, ed.2.1, fun h0 => ?_, fun i hi ai pi => ?_⟩
      · have e3 := ed.2.2.1 h0
        rw [eW _ (by omega) (fun y => by rw [y, l2] at e3; omega)]; exact e3
      · obtain ⟨ne, ai'⟩ := aw hi ai
        rw [eW i hi ne] at pi; exact ed.2.2.2 i hi ai' pi
  · obtain ⟨ne, ai'⟩ := aw hi ai
    have lk := w.lk i hi ai'
    rw [eL i hi, eW i hi ne]
    refine ⟨lk.1, lk.2.1, fun h0 => ?_, fun j hj aj pj => ?_⟩
    · have l3 := lk.2.2.1 h0
      rw [eW _ (by omega) (fun y => by
        rw [y, l2] at l3
        have := ep.2.2.2 i hi ai' l3.2.symm
        omega)]
      exact l3
    · obtain ⟨nj, aj'⟩ := aw (show j < L by omega) aj
      rw [eW j (by omega) nj] at pj; exact lk.2.2.2 j hj aj' pj
  · by_cases z : i = i0
    · subst z; rw [eWL]; omega
    · rw [eW i hi z]; exact w.lo i hi
/-- the firsts and the nexts, from i on -/
def LF (n : Int) (L i : Nat) (W Lk E : Nat → Int) : Prop :=
  (∀ p : Nat, (p : Int) < n → (i : Int) ≤ E p ∧ E p ≤ 300 ∧ (E p < 300 → E p < L ∧ 0 ≤ W (E p).toNat ∧ (W (E p).toNat).tdiv 10 = p) ∧ ∀ j : Nat, i ≤ j → j < L → 0 ≤ W j → (W j).tdiv 10 = p → E p ≤ j) ∧
  (∀ j : Nat, i ≤ j → j < L → 0 ≤ W j → (j : Int) < Lk j ∧ Lk j ≤ 300 ∧ (Lk j < 300 → Lk j < L ∧ 0 ≤ W (Lk j).toNat ∧ (W (Lk j).toNat).tdiv 10 = (W j).tdiv 10) ∧ ∀ k : Nat, j < k → k < L → 0 ≤ W k → (W k).tdiv 10 = (W j).tdiv 10 → Lk j ≤ k)
theorem LF.no {n : Int} {L i : Nat} {W Lk E : Nat → Int} (f : LF n L (i + 1) W Lk E) (a : ¬ 0 ≤ W i) : LF n L i W Lk E := by
  refine ⟨fun p hp => ?_, fun j j1 j2 aj => ?_⟩
  · have e := f.1 p hp
    refine ⟨by omega, e.2.1, e.2.2.1, fun j j1 j2 aj pj => ?_⟩
    by_cases z : j = i
    · subst z; exact absurd aj a
    · exact e.2.2.2 j (by omega) j2 aj pj
  · by_cases z : j = i
    · subst z; exact absurd aj a
    · exact f.2 j (by omega) j2 aj
theorem LF.yes {n : Int} {L i : Nat} {W Lk E Lk' E' : Nat → Int} (f : LF n L (i + 1) W Lk E) (hi : i < L) (hL : L ≤ 300) (a : 0 ≤ W i) {p : Nat} (hp : (W i).tdiv 10 = p) (hpn : (p : Int) < n) (eL : ∀ j : Nat, j ≠ i → Lk' j = Lk j) (eLi : Lk' i = E p) (eE : ∀ q : Nat, q ≠ p → E' q = E q) (eEp : E' p = i) : LF n L i W Lk' E' := by
  refine ⟨fun q hq => ?_, fun j j1 j2 aj => ?_⟩
  · by_cases y : q = p
    · subst y
      rw [eEp, Int.toNat_natCast]
      exact ⟨by omega, by omega, fun _ => ⟨by omega, a, hp⟩, fun j j1 _ _ _ => by omega⟩
    · have e := f.1 q hq
      rw [eE q y]
      refine ⟨by omega, e.2.1, e.2.2.1, fun j j1 j2 aj pj => ?_⟩
      by_cases z : j = i
      · subst z; rw [hp] at pj; omega
      · exact e.2.2.2 j (by omega) j2 aj pj
  · by_cases z : j = i
    · subst z
      have e := f.1 p hpn
      rw [eLi, hp]
      exact ⟨by omega, e.2.1, e.2.2.1, fun k k1 k2 ak pk => e.2.2.2 k (by omega) k2 ak pk⟩
    · rw [eL j z]; exact f.2 j (by omega) j2 aj
/-- what is left -/
def RM (W E : Nat → Int) (i : Nat) : Bool := decide (0 ≤ W i ∧ E ((W i).tdiv 10).toNat ≤ i)
theorem RM_t {W E : Nat → Int} {i : Nat} : RM W E i = true ↔ 0 ≤ W i ∧ E ((W i).tdiv 10).toNat ≤ i := by unfold RM; exact decide_eq_true_iff
/-- the order as it comes -/
def OI (n : Int) (L : Nat) (W Lk E : Nat → Int) (c m : Nat) (G : Nat → Int) : Prop :=
  CM (RM W E) W L c m G ∧ (∀ j : Nat, j < m → w_cd n (G j)) ∧ (∀ p : Nat, (p : Int) < n → 0 ≤ E p ∧ E p ≤ 300 ∧ (E p < 300 → E p < L ∧ 0 ≤ W (E p).toNat ∧ (W (E p).toNat).tdiv 10 = p)) ∧
  (∀ j : Nat, j < L → 0 ≤ W j → w_cd n (W j) ∧ (j : Int) < Lk j ∧ Lk j ≤ 300 ∧ (Lk j < 300 → Lk j < L ∧ 0 ≤ W (Lk j).toNat ∧ (W (Lk j).toNat).tdiv 10 = (W j).tdiv 10) ∧ ∀ k : Nat, j < k → k < L → 0 ≤ W k → (W k).tdiv 10 = (W j).tdiv 10 → Lk j ≤ k)
theorem LF.start {n : Int} {L : Nat} {W Lk E : Nat → Int} {m : Nat} {F : Nat → Int} (f : LF n L 0 W Lk E) (cm : CM (AL W) W L 0 m F) (ok : ∀ j : Nat, j < m → w_cd n (F j)) : OI n L W Lk E 0 m F := by
  have cd : ∀ j : Nat, j < L → 0 ≤ W j → w_cd n (W j) := fun j hj a => by
    have := ok _ (cm.lt hj (AL_t.mpr a))
    rwa [cm.2 j hj (AL_t.mpr a)] at this
  have eA : ∀ i : Nat, i < L → RM W E i = AL W i := fun i hi => by
    by_cases a : 0 ≤ W i
    · have r := w_cd_r (cd i hi a)
      have e := (f.1 ((W i).tdiv 10).toNat (by omega)).2.2.2 i (Nat.zero_le _) hi a (by omega)
      rw [RM_t.mpr ⟨a, e⟩, AL_t.mpr a]
    · have e1 : RM W E i = false := by unfold RM; exact decide_eq_false (fun q => a q.1)
      have e2 : AL W i = false := by unfold AL; exact decide_eq_false a
      rw [e1, e2]
  refine ⟨⟨by rw [rq_c eA L (Nat.le_refl _)]; exact cm.1, fun i hi a => by rw [rq_c eA i (by omega)]; exact cm.2 i hi (by rw [← eA i hi]; exact a)⟩, ok, fun p hp => ?_, fun j hj a => ⟨cd j hj a, f.2 j (Nat.zero_le _) hj a⟩⟩
  have e := f.1 p hp
  exact ⟨by omega, e.2.1, e.2.2.1⟩
/-- free -/
def w_fr (n : Int) (F : Nat → Int) (i k : Nat) : Prop := ∀ q : Nat, q < k → i ≤ q → f_far n ((F q).tdiv 10) ((F k).tdiv 10)
theorem w_bst_p {n : Int} {F : Nat → Int} {i : Nat} : ∀ t : Nat, w_fr n F i (w_bst n F i t) ∧ ∀ k : Nat, i ≤ k → k ≤ i + t → w_fr n F i k → F (w_bst n F i t) ≤ F k
  | 0 => ⟨fun q q1 q2 => absurd q1 (by show ¬ q < i; omega), fun k k1 k2 _ => by rw [show k = i by omega]; exact Int.le_refl _⟩
  | t + 1 => by
    have ih := w_bst_p (n := n) (F := F) (i := i) t
    by_cases z : F (i + 1 + t) < F (w_bst n F i t) ∧ ∀ q : Nat, q < i + 1 + t → (i ≤ q → f_far n ((F q).tdiv 10) ((F (i + 1 + t)).tdiv 10))
    · have e : w_bst n F i (t + 1) = i + 1 + t := if_pos z
      rw [e]
      refine ⟨z.2, fun k k1 k2 fk => ?_⟩
      by_cases y : k = i + 1 + t
      · subst y; exact Int.le_refl _
      · have := ih.2 k k1 (by omega) fk; omega
    · have e : w_bst n F i (t + 1) = w_bst n F i t := if_neg z
      rw [e]
      refine ⟨ih.1, fun k k1 k2 fk => ?_⟩
      by_cases y : k = i + 1 + t
      · subst y
        refine Classical.byContradiction fun x => z ⟨by omega, fk⟩
      · exact ih.2 k k1 (by omega) fk
theorem OI.free {n : Int} {L : Nat} {W Lk E : Nat → Int} {c m : Nat} {G : Nat → Int} (o : OI n L W Lk E c m G) (hn : 3 ≤ n ∧ n ≤ 9) (hL : L ≤ 300) {i : Nat} (hi : i < L) (a : RM W E i = true) {p : Int} (hp : (W i).tdiv 10 = p) : w_fr n G c (c + rq (RM W E) i) ↔ E p.toNat = i ∧ (i : Int) < E (x_bh n p).toNat ∧ (i : Int) < E (x_ah n p).toNat := by
  obtain ⟨cm, ok, ed, lk⟩ := o
  obtain ⟨a1, a2⟩ := RM_t.mp a
  have cd := w_cd_r (lk i hi a1).1
  rw [hp] at cd a2
  have hpn : 0 ≤ p ∧ p < n := by omega
  have bh := x_bh_r hpn
  have ah := x_ah_r hpn
  have ep := ed p.toNat (by omega)
  have eb := ed (x_bh n p).toNat (by omega)
  have ea := ed (x_ah n p).toNat (by omega)
  have rm : ∀ {q : Int}, 0 ≤ q → q < n → E q.toNat < 300 → (E q.toNat).toNat < L ∧ RM W E (E q.toNat).toNat = true ∧ (W (E q.toNat).toNat).tdiv 10 = q := fun {q} q1 q2 q3 => by
    have e := ed q.toNat (by omega)
    have e3 := e.2.2 q3
    rw [show ((q.toNat : Nat) : Int) = q by omega] at e3
    refine ⟨by omega, RM_t.mpr ⟨e3.2.1, by rw [e3.2.2]; omega⟩, e3.2.2⟩
  constructor
  · intro f
    have no : ∀ {q : Int}, 0 ≤ q → q < n → (q = p ∨ q = x_bh n p ∨ q = x_ah n p) → ¬ E q.toNat < i := fun {q} q1 q2 q3 q4 => by
      obtain ⟨r1, r2, r3⟩ := rm q1 q2 (by omega)
      have e0 := (ed q.toNat (by omega)).1
      have := f (c + rq (RM W E) (E q.toNat).toNat) (by have := rq_lt (show (E q.toNat).toNat < i by omega) r2; omega) (by omega)
      rw [cm.2 _ r1 r2, cm.2 i hi a, r3, hp] at this
      exact (far_n hn.1 hpn ⟨q1, q2⟩).mpr q3 this
    have n1 := no hpn.1 hpn.2 (Or.inl rfl)
    have n2 := no bh.1 bh.2 (Or.inr (Or.inl rfl))
    have n3 := no ah.1 ah.2 (Or.inr (Or.inr rfl))
    have dif : ∀ {q : Int}, 0 ≤ q → q < n → q ≠ p → E q.toNat ≠ i := fun {q} q1 q2 q3 q4 => by
      obtain ⟨r1, r2, r3⟩ := rm q1 q2 (by omega)
      rw [q4, Int.toNat_natCast, hp] at r3
      exact q3 r3.symm
    have d2 := dif bh.1 bh.2 (by unfold x_bh; split <;> omega)
    have d3 := dif ah.1 ah.2 (by unfold x_ah; split <;> omega)
    omega
  · rintro ⟨e1, e2, e3⟩ q q1 q2
    obtain ⟨k, k1, k2, k3, k4⟩ := cm.at (j := q) q2 (by have := cm.lt hi a; omega)
    have lt : k < i := (rq_ord k2 a).mp (by omega)
    obtain ⟨b1, b2⟩ := RM_t.mp k2
    have cdk := w_cd_r (lk k k1 b1).1
    rw [k4, cm.2 i hi a, hp]
    refine Classical.byContradiction fun z => ?_
    rcases (far_n hn.1 hpn ⟨cdk.2.2.1, cdk.2.2.2.1⟩).mp z with y | y | y <;> rw [y] at b2 <;> omega
/-- the least free one -/
theorem OI.best {n : Int} {L : Nat} {W Lk E : Nat → Int} {c m : Nat} {G : Nat → Int} (o : OI n L W Lk E c m G) (hn : 3 ≤ n ∧ n ≤ 9) (hL : L ≤ 300) {p : Int} (hp : 0 ≤ p ∧ p < n) (f : E p.toNat < 300 ∧ E p.toNat < E (x_bh n p).toNat ∧ E p.toNat < E (x_ah n p).toNat) (least : ∀ q : Int, 0 ≤ q → q < p → ¬ (E q.toNat < 300 ∧ E q.toNat < E (x_bh n q).toNat ∧ E q.toNat < E (x_ah n q).toNat)) : c < m ∧ w_bst n G c (m - (c + 1)) = c + rq (RM W E) (E p.toNat).toNat := by
  have ed := o.2.2.1 p.toNat (by omega)
  have e3 := ed.2.2 f.1
  rw [show ((p.toNat : Nat) : Int) = p by omega] at e3
  have lL : (E p.toNat).toNat < L := by omega
  have r0 : RM W E (E p.toNat).toNat = true := RM_t.mpr ⟨e3.2.1, by rw [e3.2.2]; omega⟩
  have cm := o.1
  have lt := cm.lt lL r0
  have fr := (o.free hn hL lL r0 e3.2.2).mpr ⟨by omega, by omega, by omega⟩
  refine ⟨by omega, ?_⟩
  have bp := w_bst_p (n := n) (F := G) (i := c) (m - (c + 1))
  have br := w_bst_r n G c (m - (c + 1))
  generalize w_bst n G c (m - (c + 1)) = b at *
  have le := bp.2 _ (by omega) (by omega) fr
  obtain ⟨i, i1, i2, i3, i4⟩ := cm.at (j := b) br.1 (by omega)
  obtain ⟨a1, a2⟩ := RM_t.mp i2
  have cdi := (o.2.2.2 i i1 a1).1
  have ri := w_cd_r cdi
  have fb := bp.1
  rw [← i3] at fb
  have ff := (o.free hn hL i1 i2 rfl).mp fb
  rw [i4, cm.2 _ lL r0] at le
  have ge : ¬ (W i).tdiv 10 < p := fun z => least ((W i).tdiv 10) ri.2.2.1 z ⟨by omega, by omega, by omega⟩
  have cd0 := (o.2.2.2 _ lL e3.2.1).1
  have m0 := cd0.2.2.2
  have mi := cdi.2.2.2
  have := Int.mul_tdiv_add_tmod (W (E p.toNat).toNat) 10
  have := Int.mul_tdiv_add_tmod (W i) 10
  have pe : (W i).tdiv 10 = p := by omega
  rw [pe] at ff
  have : (E p.toNat).toNat = i := by omega
  rw [this]; omega
theorem OI.step {n : Int} {L : Nat} {W Lk E E' : Nat → Int} {c m : Nat} {G : Nat → Int} (o : OI n L W Lk E c m G) (hn : 3 ≤ n ∧ n ≤ 9) (hL : L ≤ 300) {p : Int} (hp : 0 ≤ p ∧ p < n) (f : E p.toNat < 300) (eE : ∀ q : Nat, q ≠ p.toNat → E' q = E q) (eEp : E' p.toNat = Lk (E p.toNat).toNat) : w_rot G c (c + rq (RM W E) (E p.toNat).toNat) c = W (E p.toNat).toNat ∧ OI n L W Lk E' (c + 1) m (w_rot G c (c + rq (RM W E) (E p.toNat).toNat)) := by
  have ed := o.2.2.1 p.toNat (by omega)
  have e3 := ed.2.2 f
  have eP : ((p.toNat : Nat) : Int) = p := by omega
  rw [eP] at e3
  generalize hi0 : (E p.toNat).toNat = i0 at *
  have lL : i0 < L := by omega
  have r0 : RM W E i0 = true := RM_t.mpr ⟨e3.2.1, by rw [e3.2.2]; omega⟩
  have cm := o.1
  have lt := cm.lt lL r0
  have l0 := o.2.2.2 i0 lL e3.2.1
  have q0 : RM W E' i0 = false := by
    unfold RM; refine decide_eq_false (fun q => ?_)
    have := q.2; rw [e3.2.2, eEp] at this; omega
  have eA : ∀ i : Nat, i < L → i ≠ i0 → RM W E i = RM W E' i := fun i hi ne => by
    unfold RM
    congr 1
    refine propext ⟨fun q => ⟨q.1, ?_⟩, fun q => ⟨q.1, ?_⟩⟩
    · have cdi := w_cd_r (o.2.2.2 i hi q.1).1
      have q2 := q.2
      by_cases z : (W i).tdiv 10 = p
      · rw [z] at q2 ⊢; rw [eEp]; exact l0.2.2.2.2 i (by omega) hi q.1 (by rw [z, e3.2.2])
      · rw [eE _ (by omega)]; exact q2
    · have cdi := w_cd_r (o.2.2.2 i hi q.1).1
      have q2 := q.2
      by_cases z : (W i).tdiv 10 = p
      · rw [z] at q2 ⊢; rw [eEp] at q2; omega
      · rw [eE _ (by omega)] at q2; exact q2
  have ro := rq_out r0 q0 eA
  have b1 : c ≤ c + rq (RM W E) i0 := by omega
  refine ⟨?_, ⟨?_, fun i hi a => ?_⟩, w_rot_ok o.2.1 b1 lt, fun q hq => ?_, o.2.2.2⟩
  · unfold w_rot; rw [if_pos rfl]; exact cm.2 i0 lL r0
  · have := ro L (Nat.le_refl _); rw [if_pos lL] at this; have := cm.1; omega
  · have ne : i ≠ i0 := fun z => by rw [z, q0] at a; cases a
    have a' : RM W E i = true := by rw [eA i hi ne]; exact a
    have := ro i (by omega)
    rw [← cm.2 i hi a']
    unfold w_rot
    rw [if_neg (by omega)]
    by_cases z : i0 < i
    · rw [if_pos z] at this
      have := rq_lt z r0
      rw [if_neg (by omega)]
      congr 1; omega
    · rw [if_neg z] at this
      have := rq_lt (show i < i0 by omega) a'
      rw [if_pos (by omega)]
      congr 1; omega
  · by_cases z : q = p.toNat
    · subst z
      rw [eEp, eP]
      refine ⟨by omega, l0.2.2.1, fun y => ?_⟩
      have l3 := l0.2.2.2.1 y
      rw [e3.2.2] at l3; exact l3
    · rw [eE q z]; exact o.2.2.1 q hq
theorem OI.none {n : Int} {L : Nat} {W Lk E : Nat → Int} {c m : Nat} {G : Nat → Int} (o : OI n L W Lk E c m G) (hn : 3 ≤ n ∧ n ≤ 9) (hL : L ≤ 300) (no : ∀ q : Int, 0 ≤ q → q < n → ¬ (E q.toNat < 300 ∧ E q.toNat < E (x_bh n q).toNat ∧ E q.toNat < E (x_ah n q).toNat)) : c = m := by
  have cm := o.1
  refine Classical.byContradiction fun z => ?_
  obtain ⟨i, i1, i2, i3, i4⟩ := cm.at (j := c) (Nat.le_refl _) (by have := cm.1; omega)
  obtain ⟨a1, a2⟩ := RM_t.mp i2
  have cdi := w_cd_r (o.2.2.2 i i1 a1).1
  have f := (o.free hn hL i1 i2 rfl).mp (fun q q1 q2 => absurd q1 (by omega))
  exact no ((W i).tdiv 10) cdi.2.2.1 cdi.2.2.2.1 ⟨by omega, by omega, by omega⟩
