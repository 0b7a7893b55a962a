/-! stretches of writes -/
def hf_ (h : HT) (a lo hi : Nat) (f : Nat → Int) : HT := fun b j => if b = a ∧ lo ≤ j ∧ j < hi then f j else h b j
theorem hf_na {h : HT} {a lo hi b j : Nat} {f : Nat → Int} (hb : b ≠ a) : hf_ h a lo hi f b j = h b j := if_neg fun q => hb q.1
theorem hf_in {h : HT} {a lo hi j : Nat} {f : Nat → Int} (hj : lo ≤ j ∧ j < hi) : hf_ h a lo hi f a j = f j := if_pos ⟨rfl, hj⟩
theorem hf_ni {h : HT} {a lo hi b j : Nat} {f : Nat → Int} (hj : ¬ (lo ≤ j ∧ j < hi)) : hf_ h a lo hi f b j = h b j := if_neg fun q => hj q.2
theorem hf_nil {h : HT} {a lo : Nat} {f : Nat → Int} : hf_ h a lo lo f = h := by
  funext b j
  exact if_neg fun q => by omega
theorem hf_snoc {h : HT} {a lo i : Nat} {f : Nat → Int} {v : Int} (hl : lo ≤ i) (hv : f i = v) : hs_ (hf_ h a lo i f) a i v = hf_ h a lo (i + 1) f := by
  funext b j
  unfold hs_ hf_
  grind
theorem hc_hf {h : HT} {a0 a1 sp dp n : Nat} : hc_ h a0 a1 sp dp n = hf_ h a1 dp (dp + n) (fun j => h a0 (sp + (j - dp))) := rfl
section GK
variable {M : MT} {d bc bs pc : Nat} {ls : List (Option AV)} {st : List AV} {τ : TT} {h : HT} {Z : ZT}
theorem G_iastk {a n : Nat} {i v : Int} (k : Nat) (hd : decode M.1 pc = .ok (.iastore, 1)) (ho : ar_ τ a 13 n) (hi : 0 ≤ i ∧ i < n) (hk : i.toNat = k) (kk : G_ M d bc bs (pc + 1) ls st τ (hs_ h a k v) Z) : G_ M d bc bs pc ls (.inl v :: .inl i :: .inr (some a) :: st) τ h Z := by
  subst hk
  exact G_iast hd ho hi kk
theorem G_copyk {idx a0 a1 n0 n1 : Nat} {sp dp n : Int} (ks kd kn : Nat) (hc : Cond.methodLink M.2.1 idx arraycopyName ∈ gb_LW ∧ Cond.native arraycopyName ∈ gb_LW ∧ Cond.static arraycopyName ∈ gb_LW ∧ Cond.initialized "java/lang/System" ∈ gb_LW) (hl : st.length ≤ 8) (hd : decode M.1 pc = .ok (.invokestatic idx, 3)) (ho0 : ar_ τ a0 13 n0) (ho1 : ar_ τ a1 13 n1) (k1 : 0 ≤ sp) (k2 : 0 ≤ dp) (k3 : 0 ≤ n) (k4 : sp + n ≤ n0) (k5 : dp + n ≤ n1) (e1 : sp.toNat = ks) (e2 : dp.toNat = kd) (e3 : n.toNat = kn)
    (kk : G_ M (d + 1) bc bs (pc + 3) ls st τ (hf_ h a1 kd (kd + kn) (fun j => h a0 (ks + (j - kd)))) Z) : G_ M (d + 1) bc bs pc ls (.inl n :: .inl dp :: .inr (some a1) :: .inl sp :: .inr (some a0) :: st) τ h Z := by
  subst e1; subst e2; subst e3
  exact G_copy hc hl hd ho0 ho1 k1 k2 k3 k4 k5 kk
end GK
