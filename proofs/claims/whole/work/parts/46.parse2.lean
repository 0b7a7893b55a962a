/-! the class: reading a text -/
/-- a byte that is no bracket: how many bytes are used, what is read then -/
def p_sg (tx : Nat → Int) (len : Nat) (fig : Nat → List Int) (nf : Nat) (i : Nat) (o : OT) : Int × OT :=
  if 48 ≤ tx i ∧ tx i ≤ 57 then (if i + 1 < len ∧ tx (i + 1) = 60 then (2, o_ad o (10 * (tx i - 48))) else if i + 1 < len ∧ tx (i + 1) = 62 then (2, o_ad o (10 * (tx i - 48) + 1)) else (-1, o)) else
  if tx i = 119 then (1, o_ad o 100) else if tx i = 118 then (1, o_ad o 101) else
  if 65 ≤ tx i ∧ tx i - 65 < nf then (1, o_ads o (fig (tx i - 65).toNat)) else (0, o)
/-- a bracket that ends -/
def p_cl (tx : Nat → Int) (len : Nat) (i : Nat) (stk : List Nat) (ah : Bool) (o : OT) : Int × List Nat × OT :=
  if stk = [] ∨ ah = false then (0, stk, o) else
  if i + 1 < len ∧ tx (i + 1) = 45 then (2, stk.tail, (o_und o.1 (stk.headD 0), o.2)) else
  if i + 1 < len ∧ 50 ≤ tx (i + 1) ∧ tx (i + 1) ≤ 57 then (2, stk.tail, o_rep (o.1.drop (stk.headD 0)) (tx (i + 1) - 49).toNat o) else (-1, stk, o)
theorem p_run_sg {tx : Nat → Int} {len : Nat} {fig : Nat → List Int} {nf n i : Nat} {stk : List Nat} {ah : Bool} {o : OT} (h1 : ¬ len ≤ i) (h2 : tx i ≠ 40) (h3 : tx i ≠ 41) (hn : nf ≤ 10) : p_run tx len fig nf (n + 1) i stk ah o = if 0 < (p_sg tx len fig nf i o).1 then p_run tx len fig nf n (i + (p_sg tx len fig nf i o).1.toNat) stk true (p_sg tx len fig nf i o).2 else ((i : Int) - (p_sg tx len fig nf i o).1, o) := by
  by_cases a : 48 ≤ tx i ∧ tx i ≤ 57
  · by_cases b : i + 1 < len ∧ tx (i + 1) = 60
    · have e : p_sg tx len fig nf i o = (2, o_ad o (10 * (tx i - 48))) := by unfold p_sg; rw [if_pos a, if_pos b]
      rw [e, if_pos (by dsimp only; decide), p_d60 h1 a b]; rfl
    · by_cases c : i + 1 < len ∧ tx (i + 1) = 62
      · have e : p_sg tx len fig nf i o = (2, o_ad o (10 * (tx i - 48) + 1)) := by unfold p_sg; rw [if_pos a, if_neg b, if_pos c]
        rw [e, if_pos (by dsimp only; decide), p_d62 h1 a c]; rfl
      · have e : p_sg tx len fig nf i o = (-1, o) := by unfold p_sg; rw [if_pos a, if_neg b, if_neg c]
        rw [e, if_neg (by dsimp only; decide), p_dF h1 a b c]
        congr 1
  · by_cases b : tx i = 119
    · have e : p_sg tx len fig nf i o = (1, o_ad o 100) := by unfold p_sg; rw [if_neg a, if_pos b]
      rw [e, if_pos (by dsimp only; decide), p_w h1 b]; rfl
    · by_cases c : tx i = 118
      · have e : p_sg tx len fig nf i o = (1, o_ad o 101) := by unfold p_sg; rw [if_neg a, if_neg b, if_pos c]
        rw [e, if_pos (by dsimp only; decide), p_v h1 c]; rfl
      · by_cases g : 65 ≤ tx i ∧ tx i - 65 < nf
        · have e : p_sg tx len fig nf i o = (1, o_ads o (fig (tx i - 65).toNat)) := by unfold p_sg; rw [if_neg a, if_neg b, if_neg c, if_pos g]
          rw [e, if_pos (by dsimp only; decide), p_fg h1 (by omega)]; rfl
        · have e : p_sg tx len fig nf i o = (0, o) := by unfold p_sg; rw [if_neg a, if_neg b, if_neg c, if_neg g]
          rw [e, if_neg (by dsimp only; decide), p_bad h1 a ⟨b, c⟩ (by omega) (by omega) (fun q => h3 q.1)]
          congr 1
theorem p_run_cl {tx : Nat → Int} {len : Nat} {fig : Nat → List Int} {nf n i : Nat} {stk : List Nat} {ah : Bool} {o : OT} (h1 : ¬ len ≤ i) (h2 : tx i = 41) : p_run tx len fig nf (n + 1) i stk ah o = if 0 < (p_cl tx len i stk ah o).1 then p_run tx len fig nf n (i + (p_cl tx len i stk ah o).1.toNat) (p_cl tx len i stk ah o).2.1 true (p_cl tx len i stk ah o).2.2 else ((i : Int) - (p_cl tx len i stk ah o).1, o) := by
  by_cases a : stk = [] ∨ ah = false
  · have e : p_cl tx len i stk ah o = (0, stk, o) := by unfold p_cl; rw [if_pos a]
    rw [e, if_neg (by dsimp only; decide), p_bad h1 (by omega) (by omega) (by omega) (by omega) (fun q => by
      rcases a with a | a
      · exact q.2.1 a
      · rw [a] at q; exact absurd q.2.2 (by decide))]
    congr 1
  · have h3 : stk ≠ [] ∧ ah = true := ⟨fun z => a (Or.inl z), by cases ah with | false => exact absurd (Or.inr rfl) a | true => rfl⟩
    by_cases b : i + 1 < len ∧ tx (i + 1) = 45
    · have e : p_cl tx len i stk ah o = (2, stk.tail, (o_und o.1 (stk.headD 0), o.2)) := by unfold p_cl; rw [if_neg a, if_pos b]
      rw [e, if_pos (by dsimp only; decide), p_cu h1 h2 h3 b]; rfl
    · by_cases c : i + 1 < len ∧ 50 ≤ tx (i + 1) ∧ tx (i + 1) ≤ 57
      · have e : p_cl tx len i stk ah o = (2, stk.tail, o_rep (o.1.drop (stk.headD 0)) (tx (i + 1) - 49).toNat o) := by unfold p_cl; rw [if_neg a, if_neg b, if_pos c]
        rw [e, if_pos (by dsimp only; decide), p_cr h1 h2 h3 c]; rfl
      · have e : p_cl tx len i stk ah o = (-1, stk, o) := by unfold p_cl; rw [if_neg a, if_neg b, if_neg c]
        rw [e, if_neg (by dsimp only; decide), p_cF h1 h2 h3 c b]
        congr 1
/-- a text's bytes with a sign or without: the same is read -/
theorem p_tx {tx ty : Nat → Int} {len : Nat} {fig : Nat → List Int} {nf : Nat} (hn : nf ≤ 10) (e : ∀ i : Nat, i < len → (ty i = tx i) ∨ (tx i < 0 ∧ 128 ≤ ty i)) : ∀ (n i : Nat) (stk : List Nat) (ah : Bool) (o : OT), p_run ty len fig nf n i stk ah o = p_run tx len fig nf n i stk ah o
  | 0, _, _, _, _ => rfl
  | n + 1, i, stk, ah, o => by
    have ih := p_tx (fig := fig) (nf := nf) hn e n
    by_cases h1 : len ≤ i
    · rw [p_run_s, p_run_s, if_pos h1, if_pos h1]
    · have e1 := e i (by omega)
      have e2 : i + 1 < len → (ty (i + 1) = tx (i + 1)) ∨ (tx (i + 1) < 0 ∧ 128 ≤ ty (i + 1)) := e (i + 1)
      by_cases h2 : tx i < 0
      · rw [p_bad h1 (by omega) (by omega) (by omega) (by omega) (by omega), p_bad h1 (by omega) (by omega) (by omega) (by omega) (by omega)]
      · have e3 : ty i = tx i := by omega
        by_cases a : tx i = 41
        · have ec : p_cl ty len i stk ah o = p_cl tx len i stk ah o := by
            unfold p_cl
            by_cases z : i + 1 < len
            · rcases e2 z with y | y
              · rw [y]
              · rw [if_neg (show ¬ (i + 1 < len ∧ ty (i + 1) = 45) by omega), if_neg (show ¬ (i + 1 < len ∧ 50 ≤ ty (i + 1) ∧ ty (i + 1) ≤ 57) by omega), if_neg (show ¬ (i + 1 < len ∧ tx (i + 1) = 45) by omega), if_neg (show ¬ (i + 1 < len ∧ 50 ≤ tx (i + 1) ∧ tx (i + 1) ≤ 57) by omega)]
            · simp only [z, false_and, if_false]
          rw [p_run_cl h1 (by omega), p_run_cl h1 a, ec]
          split
          · exact ih _ _ _ _
          · rfl
        · by_cases b : tx i = 40
          · by_cases c : stk.length < 4
            · rw [p_op h1 ⟨by omega, c⟩, p_op h1 ⟨b, c⟩]; exact ih _ _ _ _
            · rw [p_bad h1 (by omega) (by omega) (by omega) (by omega) (by omega), p_bad h1 (by omega) (by omega) (by omega) (by omega) (by omega)]
          · have es : p_sg ty len fig nf i o = p_sg tx len fig nf i o := by
              unfold p_sg
              rw [e3]
              by_cases z : i + 1 < len
              · rcases e2 z with y | y
                · rw [y]
                · rw [if_neg (show ¬ (i + 1 < len ∧ ty (i + 1) = 60) by omega), if_neg (show ¬ (i + 1 < len ∧ ty (i + 1) = 62) by omega), if_neg (show ¬ (i + 1 < len ∧ tx (i + 1) = 60) by omega), if_neg (show ¬ (i + 1 < len ∧ tx (i + 1) = 62) by omega)]
              · simp only [z, false_and, if_false]
            rw [p_run_sg h1 (by omega) (by omega) hn, p_run_sg h1 b a hn, es]
            split
            · exact ih _ _ _ _
            · rfl
