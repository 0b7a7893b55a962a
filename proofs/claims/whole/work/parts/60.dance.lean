/-! operations: pass, walk, dance -/
/-- a step done by the class and by the reference keeps them side by side -/
theorem SIM_step {τ : TT} {g c : HT} {s v : Int} (s0 : SIM τ g) (hd : g 81 11 ≠ 0) (hs : f_okc s) (D : DSP g c (g 81 1) (T_m g) s v) : SIM τ (MIX c (f_stp g s).2) ∧ (v < 0 ↔ ¬ 0 < (f_stp g s).1) ∧ ((s < 100 → s.tdiv 10 < g 81 1) → v = (f_stp g s).1) := by
  have x := s0.2.1
  have y := s0.2.2
  have n3 := x.d3 hd
  have cnn := y.cn_
  have rr := x.r_
  have ss := x.s_
  have xs := MI_stp x s
  have ko : ∀ a i : Nat, f_kept a i → (f_stp g s).2 a i = g a i := fun a i q => f_stp_o q
  by_cases z : (t_tk (g 81 1) (T_m g) s).1 ≠ 0
  · obtain ⟨D1, D2, D3⟩ := D.1 z
    have tr := t_tk_r (n := g 81 1) (T := T_m g) (s := s)
    have e : (f_stp g s).2 = g ∧ (f_stp g s).1 < 0 ∧ ((s < 100 → s.tdiv 10 < g 81 1) → (f_stp g s).1 = (t_tk (g 81 1) (T_m g) s).1) := by
      by_cases w : s < 100
      · obtain ⟨a1, a2, a3⟩ := (stp_pass x hd hs w).1 z
        exact ⟨a1, a2, fun q => a3 (q w)⟩
      · obtain ⟨a1, a2, a3⟩ := (stp_walk x hd hs (by omega)).1 z
        exact ⟨a1, a2, fun _ => a3⟩
    refine ⟨?_, ⟨fun _ => by omega, fun _ => by omega⟩, fun q => by rw [e.2.2 q]; exact D1⟩
    rw [e.1]
    obtain ⟨f0, f1, f2, f3⟩ := D2
    have k : ∀ a i : Nat, ¬ (6 ≤ a ∧ a ≤ 10) → ¬ (81 ≤ a ∧ a ≤ 125) → c a i = g a i := D3
    exact SIM_mix s0 c g x (fun a i hq1 q => k a i (by omega) (by omega)) (fun _ _ _ => rfl) hd ⟨f0, f1, f2⟩ (fun p hp => (f3 p hp).1) (fun p hp => (f3 p hp).2.1) (fun p hp => (f3 p hp).2.2) y.wh_ (by rw [k 11 1 (by omega) (by omega)]; exact y.dc_) (fun q hq => by rw [k 12 q (by omega) (by omega)]; exact y.dd_ q hq) (by rw [k 13 0 (by omega) (by omega), k 13 1 (by omega) (by omega)]; exact cnn) (fun q p hq hp => by rw [k 14 _ (by omega) (by omega), k 15 _ (by omega) (by omega), k 16 _ (by omega) (by omega)]; exact y.cl_ q p hq hp) (fun q hq => by rw [k 14 q (by omega) (by omega), k 15 q (by omega) (by omega)]; exact y.cr_ q hq) y.ok_
  · have z0 : (t_tk (g 81 1) (T_m g) s).1 = 0 := Classical.byContradiction z
    obtain ⟨v1, ⟨f0, f1, f2, f3⟩, c11, c12, c130, cp, cw, cf⟩ := D.2 z0
    have v1' : v = g 81 14 + 1 := v1
    have c11' : c 11 1 = g 81 14 + 1 := c11
    have c12' : ∀ k, c 12 k = if k = (g 81 14).toNat then s else g 12 k := c12
    by_cases w : s < 100
    · obtain ⟨p, q, a, b, u, hp, hq, hu, es, hab, ef, et⟩ := (stp_pass x hd hs w).2 z0
      rw [if_neg (by omega)] at f1 f2 f3
      rw [et] at f1 f2 f3
      obtain ⟨cp1, cp2⟩ := cp w
      rw [ef] at xs ko ⊢
      dsimp only at xs ko f1 f2 f3 ⊢
      have hqr := f_aft_r hp
      rw [← hq] at hqr
      have hpq : p ≠ q := by rw [hq]; unfold f_aft; split <;> omega
      have hi6 := x.hi_ p.toNat q.toNat (by omega) (by omega)
      have ha1 := x.ha_ p.toNat (by omega)
      have ha2 := x.ha_ q.toNat (by omega)
      have hne : a.toNat ≠ b.toNat := by rcases hab with ⟨_, r1, r2⟩ | ⟨_, r1, r2⟩ <;> (intro z; have := hi6 (by omega); omega)
      have r15 : f_passW g p q a b u 81 15 = g 81 15 := by simp [f_passW, hs_]
      have r95 : ∀ k, f_passW g p q a b u 95 k = g 95 k := fun k => by simp [f_passW, hs_]
      have r96 : ∀ k, f_passW g p q a b u 96 k = g 96 k := fun k => by simp [f_passW, hs_]
      have r1 : f_passW g p q a b u 81 1 = g 81 1 := by simp [f_passW, hs_]
      refine ⟨SIM_mix s0 c _ xs (fun a i hq1 q => cf a i q (by omega)) ko hd ⟨f0, by rw [f_passW_14]; exact f1, by rw [r15]; exact f2⟩ (fun k hk => ?_) (fun k hk => ?_) (fun k hk => ?_) (fun k hk => ?_) (by rw [f_passW_14]; exact c11') (fun k hk => ?_) (by rw [c130, cp1, r15]; exact cnn) (fun j k hj hk => ?_) (fun k hk => ?_) ?_, ⟨fun _ => by omega, fun _ => by omega⟩, fun _ => v1'⟩
      · rw [f_passW_86]; exact (f3 k hk).1
      · rw [f_passW_88 _ _ _ _ _ _ _ hne]
        rw [show c 8 k = c (6 + 2) k from rfl, (f3 k hk).2.1]
        by_cases y1 : k = a.toNat
        · rw [if_pos y1, if_neg (fun y2 => hne (y1.symm.trans y2)), if_pos y1]
        · rw [if_neg y1]
          by_cases y2 : k = b.toNat
          · rw [if_pos y2, if_pos y2]
          · rw [if_neg y2, if_neg y2, if_neg y1]
      · rw [f_passW_94]; exact (f3 k hk).2.2
      · rw [f_passW_85, f_passW_86]
        by_cases y1 : k = q.toNat
        · rw [if_pos y1, if_pos y1]; exact y.wh_ _ (by omega)
        · rw [if_neg y1, if_neg y1]
          by_cases y2 : k = p.toNat
          · rw [if_pos y2, if_pos y2]; exact y.wh_ _ (by omega)
          · rw [if_neg y2, if_neg y2]; exact y.wh_ k hk
      · rw [f_passW_14] at hk
        rw [f_passW_93, c12']
        by_cases y1 : k = (g 81 14).toNat
        · rw [if_pos y1, if_pos y1]; exact es
        · rw [if_neg y1, if_neg y1]; exact y.dd_ k (by omega)
      · rw [r15] at hj
        rw [(cp2 _).1, (cp2 _).2.1, (cp2 _).2.2, r95, r96, f_top_k r1 r95 r96]; exact y.cl_ j k hj hk
      · rw [(cp2 _).1, (cp2 _).2.1]; exact y.cr_ k hk
      · intro j k hj hk
        rw [r15] at hj; rw [r1] at hk ⊢; rw [r95]; exact y.ok_ j k hj hk
    · obtain ⟨hu, ef, et, hrow⟩ := (stp_walk x hd hs (by omega)).2 z0
      rw [if_pos (by omega)] at f1 f2 f3
      rw [et] at f1 f2 f3
      obtain ⟨cw1, cw2⟩ := cw (by omega)
      have cw1' : c 13 1 = g 81 15 + 1 := cw1
      rw [et] at cw2
      have cw2' : ∀ k, c 14 k = (if 9 * (g 81 15).toNat ≤ k ∧ k < 9 * (g 81 15).toNat + (g 81 1).toNat then g 86 (f_rot (g 81 1).toNat (s - 100) (k - 9 * (g 81 15).toNat)) else g 14 k) ∧ c 15 k = (if 9 * (g 81 15).toNat ≤ k ∧ k < 9 * (g 81 15).toNat + (g 81 1).toNat then g 94 (k - 9 * (g 81 15).toNat) else g 15 k) ∧ c 16 k = (if 9 * (g 81 15).toNat ≤ k ∧ k < 9 * (g 81 15).toNat + (g 81 1).toNat then x_top c (g 81 15) ((k - 9 * (g 81 15).toNat : Nat) : Int) else g 16 k) := cw2
      rw [ef] at xs ko ⊢
      dsimp only at xs ko f1 f2 f3 ⊢
      have r1 : f_walkW g (s - 100) 81 1 = g 81 1 := ko 81 1 (by decide)
      have hrot : ∀ k : Nat, k < (g 81 1).toNat → f_rot (g 81 1).toNat (s - 100) k < (g 81 1).toNat := fun k hk => f_rot_r (by omega) hk
      have e14 : ∀ q p : Nat, (q : Int) < g 81 15 + 1 → (p : Int) < g 81 1 → c 14 (9 * q + p) = f_walkW g (s - 100) 95 (9 * q + p) ∧ c 15 (9 * q + p) = f_walkW g (s - 100) 96 (9 * q + p) := fun q p hq hp => by
        rw [(cw2' _).1, (cw2' _).2.1, f_walkW_95, f_walkW_96]
        by_cases y1 : 9 * (g 81 15).toNat ≤ 9 * q + p ∧ 9 * q + p < 9 * (g 81 15).toNat + (g 81 1).toNat
        · rw [if_pos y1, if_pos y1, if_pos y1, if_pos y1, f_walkW_86, if_pos (by omega)]; exact ⟨rfl, rfl⟩
        · rw [if_neg y1, if_neg y1, if_neg y1, if_neg y1]
          have := y.cl_ q p (by omega) hp
          exact ⟨this.1, this.2.1⟩
      refine ⟨SIM_mix s0 c _ xs (fun a i hq1 q => cf a i q (by omega)) ko hd ⟨f0, by rw [f_walkW_14]; exact f1, by rw [f_walkW_15]; exact f2⟩ (fun k hk => ?_) (fun k hk => ?_) (fun k hk => ?_) (fun k hk => ?_) (by rw [f_walkW_14]; exact c11') (fun k hk => ?_) (by rw [c130, cw1', f_walkW_15]; exact ⟨cnn.1, rfl⟩) (fun j k hj hk => ?_) (fun k hk => ?_) ?_, ⟨fun _ => by omega, fun _ => by omega⟩, fun _ => v1'⟩
      · rw [f_walkW_86, if_pos (by omega)]; exact (f3 k hk).1
      · rw [f_walkW_88, if_pos (by omega)]; exact (f3 k hk).2.1
      · rw [f_walkW_94, if_pos (by omega)]; exact (f3 k hk).2.2
      · rw [f_walkW_85, f_walkW_86, if_pos (by omega), if_pos (by omega)]
        have := hrot k (by omega)
        exact y.wh_ _ (by omega)
      · rw [f_walkW_14] at hk
        rw [f_walkW_93, c12']
        by_cases y1 : k = (g 81 14).toNat
        · rw [if_pos y1, if_pos y1]; omega
        · rw [if_neg y1, if_neg y1]; exact y.dd_ k (by omega)
      · rw [f_walkW_15] at hj
        have ee := e14 j k hj hk
        refine ⟨ee.1, ee.2, ?_⟩
        rw [(cw2' _).2.2]
        by_cases y1 : 9 * (g 81 15).toNat ≤ 9 * j + k ∧ 9 * j + k < 9 * (g 81 15).toNat + (g 81 1).toNat
        · rw [if_pos y1]
          obtain rfl : j = (g 81 15).toNat := by omega
          rw [show 9 * (g 81 15).toNat + k - 9 * (g 81 15).toNat = k by omega, show (((g 81 15).toNat : Nat) : Int) = g 81 15 by omega]
          have b1 := f_ahd_r (n := g 81 1) (p := (k : Int)) (by omega)
          have b2 := f_aft_r (n := g 81 1) (p := (k : Int)) (by omega)
          have i1 : (9 * g 81 15 + (k : Int)).toNat = 9 * (g 81 15).toNat + k := by omega
          have i2 : (9 * g 81 15 + f_ahd (g 81 1) k).toNat = 9 * (g 81 15).toNat + (f_ahd (g 81 1) k).toNat := by omega
          have i3 : (9 * g 81 15 + f_aft (g 81 1) k).toNat = 9 * (g 81 15).toNat + (f_aft (g 81 1) k).toNat := by omega
          unfold x_top f_top
          rw [r1, c130, cnn.1, x_ah_e (by omega), x_bh_e (by omega), i1, i2, i3, ee.1, ee.2, (e14 _ (f_ahd (g 81 1) k).toNat (by omega) (by omega)).2, (e14 _ (f_aft (g 81 1) k).toNat (by omega) (by omega)).1]
        · rw [if_neg y1]
          have cj := (y.cl_ j k (by omega) hk).2.2
          rw [cj]
          have b1 := f_ahd_r (n := g 81 1) (p := (k : Int)) (by omega)
          have b2 := f_aft_r (n := g 81 1) (p := (k : Int)) (by omega)
          have i1 : (9 * (j : Int) + (k : Int)).toNat = 9 * j + k := by omega
          have i2 : (9 * (j : Int) + f_ahd (g 81 1) k).toNat = 9 * j + (f_ahd (g 81 1) k).toNat := by omega
          have i3 : (9 * (j : Int) + f_aft (g 81 1) k).toNat = 9 * j + (f_aft (g 81 1) k).toNat := by omega
          unfold f_top
          rw [r1, i1, i2, i3]
          have w1 : ∀ k2 : Nat, (k2 : Int) < g 81 1 → f_walkW g (s - 100) 96 (9 * j + k2) = g 96 (9 * j + k2) ∧ f_walkW g (s - 100) 95 (9 * j + k2) = g 95 (9 * j + k2) := fun k2 h2 => by
            rw [f_walkW_96, f_walkW_95, if_neg (by omega), if_neg (by omega)]; exact ⟨rfl, rfl⟩
          rw [(w1 k hk).1, (w1 k hk).2, (w1 _ (by omega)).1, (w1 _ (by omega)).2]
      · rw [(cw2' _).1, (cw2' _).2.1]
        by_cases y1 : 9 * (g 81 15).toNat ≤ k ∧ k < 9 * (g 81 15).toNat + (g 81 1).toNat
        · rw [if_pos y1, if_pos y1]
          have h1 := hrot (k - 9 * (g 81 15).toNat) (by omega)
          have h2 := x.ha_ (f_rot (g 81 1).toNat (s - 100) (k - 9 * (g 81 15).toNat)) (by omega)
          exact ⟨by omega, x.mk_ _ (by omega)⟩
        · rw [if_neg y1, if_neg y1]; exact y.cr_ k hk
      · intro j k hj hk
        rw [f_walkW_15] at hj; rw [r1] at hk ⊢; rw [f_walkW_95]
        by_cases y1 : 9 * (g 81 15).toNat ≤ 9 * j + k ∧ 9 * j + k < 9 * (g 81 15).toNat + (g 81 1).toNat
        · rw [if_pos y1, f_walkW_86, if_pos (by omega)]
          have h1 := hrot (9 * j + k - 9 * (g 81 15).toNat) (by omega)
          exact (x.ha_ _ (by omega)).2
        · rw [if_neg y1]; exact y.ok_ j k (by omega) hk
