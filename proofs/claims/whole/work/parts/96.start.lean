/-! the two made -/
def T81_ : TT := (tr_ (tr_ (tz_ 80 (tz_ 79 (tr_ (tr_ (tz_ 78 (tz_ 77 (tr_ (tr_ (tz_ 76 (tz_ 75 (tr_ (tr_ (tz_ 74 (tz_ 73 (tr_ (tr_ (tz_ 72 (tz_ 71 (tr_ (tr_ (tz_ 70 (tz_ 69 (tr_ (tz_ 68 (tr_ (tr_ (tz_ 67 (tr_ (tz_ 66 (tr_ (tz_ 65 (tz_ 64 (tr_ (tz_ 63 (tr_ (tz_ 62 (tr_ (tz_ 61 (tz_ 60 (tr_ (tr_ (tz_ 59 (tr_ (tz_ 58 (tr_ (tz_ 57 (tr_ (tz_ 56 (tz_ 55 (tr_ (tr_ (tz_ 54 (tr_ (tz_ 53 (tr_ (tz_ 52 (tr_ (tz_ 51 (tz_ 50 (tr_ (tr_ (tz_ 49 (tr_ (tz_ 48 (tr_ (tz_ 47 (tr_ (tz_ 46 (tz_ 45 (tr_ (tr_ (tz_ 44 (tr_ (tr_ (tz_ 43 (tz_ 42 (tr_ (tz_ 41 (tr_ (tz_ 40 (tz_ 39 (tr_ (tr_ (tz_ 38 (tr_ (tz_ 37 (tr_ (tz_ 36 (tr_ (tz_ 35 (tz_ 34 (tr_ (tr_ (tz_ 33 (tr_ (tz_ 32 (tr_ (tz_ 31 (tr_ (tz_ 30 (tz_ 29 (tr_ (tr_ (tz_ 28 (tr_ (tz_ 27 (tr_ (tz_ 26 (tr_ (tz_ 25 (tz_ 24 (tr_ (tr_ (tz_ 23 (tr_ (tz_ 22 (tr_ (tz_ 21 (tr_ (tz_ 20 (tr_ (tz_ 19 (tz_ 18 (tr_ (tr_ (tz_ 17 (tr_ (tz_ 16 (tr_ (tz_ 15 (tr_ (tz_ 14 (tz_ 13 (tr_ (tr_ (tz_ 12 (tz_ 11 (tr_ (tr_ (tz_ 10 (tr_ (tz_ 9 (tr_ (tz_ 8 (tr_ (tz_ 7 (tz_ 6 (tr_ (tz_ 5 (tr_ (tz_ 4 (tr_ (tr_ (tz_ 3 (tz_ 2 (tr_ (tz_ 1 (tz_ 0 t0_ 11 0) 15 15) 0 0 (some 1)) 0 0) 13 20) 2 0 (some 3)) 0 2 (some 2)) 13 9) 0 3 (some 4)) 13 9) 0 4 (some 5)) 2 0) 13 9) 6 3 (some 7)) 13 9) 6 4 (some 8)) 13 9) 6 5 (some 9)) 13 9) 6 6 (some 10)) 0 5 (some 6)) 9 0) 13 300) 11 0 (some 12)) 0 7 (some 11)) 1 0) 13 900) 13 2 (some 14)) 13 900) 13 3 (some 15)) 13 900) 13 4 (some 16)) 13 9) 13 5 (some 17)) 0 8 (some 13)) 6 0) 13 40) 18 0 (some 19)) 13 40) 18 1 (some 20)) 13 40) 18 2 (some 21)) 13 72) 18 4 (some 22)) 13 9) 18 5 (some 23)) 0 9 (some 18)) 2 0) 13 9) 24 3 (some 25)) 13 9) 24 4 (some 26)) 13 9) 24 5 (some 27)) 13 9) 24 6 (some 28)) 0 10 (some 24)) 2 0) 13 9) 29 3 (some 30)) 13 9) 29 4 (some 31)) 13 9) 29 5 (some 32)) 13 9) 29 6 (some 33)) 0 11 (some 29)) 2 0) 13 9) 34 3 (some 35)) 13 9) 34 4 (some 36)) 13 9) 34 5 (some 37)) 13 9) 34 6 (some 38)) 0 12 (some 34)) 7 0) 16 10) 39 0 (some 40)) 13 80) 39 2 (some 41)) 9 0) 13 300) 42 0 (some 43)) 39 4 (some 42)) 13 4) 39 6 (some 44)) 0 13 (some 39)) 3 0) 13 300) 45 2 (some 46)) 13 300) 45 3 (some 47)) 13 300) 45 5 (some 48)) 13 9) 45 6 (some 49)) 0 14 (some 45)) 3 0) 13 300) 50 2 (some 51)) 13 300) 50 3 (some 52)) 13 300) 50 5 (some 53)) 13 9) 50 6 (some 54)) 0 15 (some 50)) 4 0) 13 9) 55 0 (some 56)) 13 9) 55 1 (some 57)) 13 9) 55 2 (some 58)) 13 40) 55 3 (some 59)) 0 16 (some 55)) 8 0) 13 7) 60 1 (some 61)) 13 7) 60 2 (some 62)) 13 7) 60 3 (some 63)) 14 0) 13 7) 60 4 (some 65)) 13 7) 60 5 (some 66)) 13 7) 60 6 (some 67)) 0 17 (some 60)) 17 6) 0 18 (some 68)) 10 0) 13 60) 69 2 (some 70)) 68 (Int.toNat 0) (some 69)) 10 0) 13 60) 71 2 (some 72)) 68 (Int.toNat 1) (some 71)) 10 0) 13 60) 73 2 (some 74)) 68 (Int.toNat 2) (some 73)) 10 0) 13 60) 75 2 (some 76)) 68 (Int.toNat 3) (some 75)) 10 0) 13 60) 77 2 (some 78)) 68 (Int.toNat 4) (some 77)) 10 0) 13 60) 79 2 (some 80)) 68 (Int.toNat 5) (some 79))
def H81_ : HT := (hs_ (hs_ (hs_ (hs_ (hs_ (hs_ h0_ 69 0 (-1)) 71 0 (-1)) 73 0 (-1)) 75 0 (-1)) 77 0 (-1)) 79 0 (-1))
theorem x_iX11 (d : Nat)  : S_ mX11_init (d + 3) 79 6194 [.inr (some 0)] (tz_ 0 t0_ 11 0) h0_ (fun r τ1 h1 => r = none ∧ τ1 = T81_ ∧ h1 = H81_) := by
  refine S_go (k := 1) (ls := [some (.inr (some 0)), none]) (by decide) rfl (Nat.le_of_ble_eq_true rfl) rfl ?_
  refine G_aload_n (i := 0) dX11_init_0 rfl rfl ?_
  refine G_obj qX11_1 (Nat.le_of_ble_eq_true rfl) dX11_init_1 ?_
  refine G_aload_n (i := 0) dX11_init_4 rfl rfl ?_
  refine G_bipush dX11_init_5 (by decide) ?_
  refine G_anewz (ci := 15) (N := 15) (a := 1) (bc := 78) (bs := 6179) kX11_9 (by decide) (by decide) (by decide) rfl rfl (by decide) (fun _ => by rfl) rfl rfl dX11_init_7 ?_
  refine G_putFR fX11_11 ⟨rfl, rfl⟩ rfl dX11_init_10 ⟨by decide +kernel, by decide +kernel⟩ ?_
  refine G_aload_n (i := 0) dX11_init_13 rfl rfl ?_
  refine G_iconst dX11_init_14 ?_
  refine G_putI fX11_15 dX11_init_15 ⟨by decide +kernel, by decide +kernel⟩ ?_
  rw [hs_id (h := h0_) (a := 0) (k := 1) (v := 0) (by rfl)]
  refine G_aload_n (i := 0) dX11_init_18 rfl rfl ?_
  refine G_newz (a := 2) (bc := 77) (bs := 6177) cl0 kX11_19 (by decide) rfl (by decide) (fun _ => by rfl) rfl rfl dX11_init_19 ?_
  refine G_dup dX11_init_22 ?_
  refine G_callINc (as := []) (bc := 76) (bs := 6157) qX11_21 (x_iX0 (d + 1) _ 2 ⟨by decide +kernel, by decide +kernel⟩ rfl (by decide)) rfl rfl (Nat.le_of_ble_eq_true rfl) rfl rfl dX11_init_23 ?_
  refine G_putFR fX11_22 ⟨rfl, rfl⟩ rfl dX11_init_26 ⟨by decide +kernel, by decide +kernel⟩ ?_
  refine G_aload_n (i := 0) dX11_init_29 rfl rfl ?_
  refine G_bipush dX11_init_30 (by decide) ?_
  refine G_newaIz (N := 9) (a := 4) (bc := 75) (bs := 6148) rfl acI (by decide) rfl rfl (by decide) (fun _ => by rfl) rfl rfl dX11_init_32 ?_
  refine G_putFR fX11_26 ⟨rfl, rfl⟩ rfl dX11_init_34 ⟨by decide +kernel, by decide +kernel⟩ ?_
  refine G_aload_n (i := 0) dX11_init_37 rfl rfl ?_
  refine G_bipush dX11_init_38 (by decide) ?_
  refine G_newaIz (N := 9) (a := 5) (bc := 74) (bs := 6139) rfl acI (by decide) rfl rfl (by decide) (fun _ => by rfl) rfl rfl dX11_init_40 ?_
  refine G_putFR fX11_30 ⟨rfl, rfl⟩ rfl dX11_init_42 ⟨by decide +kernel, by decide +kernel⟩ ?_
  refine G_aload_n (i := 0) dX11_init_45 rfl rfl ?_
  refine G_newz (a := 6) (bc := 73) (bs := 6132) cl2 kX11_33 (by decide) rfl (by decide) (fun _ => by rfl) rfl rfl dX11_init_46 ?_
  refine G_dup dX11_init_49 ?_
  refine G_callINc (as := []) (bc := 69) (bs := 6096) qX11_35 (x_iX2 (d + 1) _ 6 ⟨by decide +kernel, by decide +kernel⟩ rfl (by decide)) rfl rfl (Nat.le_of_ble_eq_true rfl) rfl rfl dX11_init_50 ?_
  refine G_putFR fX11_36 ⟨rfl, rfl⟩ rfl dX11_init_53 ⟨by decide +kernel, by decide +kernel⟩ ?_
  refine G_aload_n (i := 0) dX11_init_56 rfl rfl ?_
  refine G_iconst dX11_init_57 ?_
  refine G_putZ fX11_40 (by decide) dX11_init_58 ⟨by decide +kernel, by decide +kernel⟩ ?_
  rw [hs_id (h := h0_) (a := 0) (k := 6) (v := 0) (by rfl)]
  refine G_aload_n (i := 0) dX11_init_61 rfl rfl ?_
  refine G_newz (a := 11) (bc := 68) (bs := 6094) cl9 kX11_44 (by decide) rfl (by decide) (fun _ => by rfl) rfl rfl dX11_init_62 ?_
  refine G_dup dX11_init_65 ?_
  refine G_sipush dX11_init_66 (by decide) ?_
  refine G_callIc (as := [.inl 300]) (bc := 67) (bs := 5794) qX11_46 (x_iX9 (d + 1) _ 11 ⟨by decide +kernel, by decide +kernel⟩ rfl (by decide)) rfl rfl (Nat.le_of_ble_eq_true rfl) rfl rfl dX11_init_69 ?_
  refine G_putFR fX11_49 ⟨rfl, rfl⟩ rfl dX11_init_72 ⟨by decide +kernel, by decide +kernel⟩ ?_
  refine G_aload_n (i := 0) dX11_init_75 rfl rfl ?_
  refine G_newz (a := 13) (bc := 66) (bs := 5788) cl1 kX11_53 (by decide) rfl (by decide) (fun _ => by rfl) rfl rfl dX11_init_76 ?_
  refine G_dup dX11_init_79 ?_
  refine G_callINc (as := []) (bc := 62) (bs := 3079) qX11_55 (x_iX1 (d + 1) _ 13 ⟨by decide +kernel, by decide +kernel⟩ rfl (by decide)) rfl rfl (Nat.le_of_ble_eq_true rfl) rfl rfl dX11_init_80 ?_
  refine G_putFR fX11_56 ⟨rfl, rfl⟩ rfl dX11_init_83 ⟨by decide +kernel, by decide +kernel⟩ ?_
  refine G_aload_n (i := 0) dX11_init_86 rfl rfl ?_
  refine G_newz (a := 18) (bc := 61) (bs := 3072) cl6 kX11_60 (by decide) rfl (by decide) (fun _ => by rfl) rfl rfl dX11_init_87 ?_
  refine G_dup dX11_init_90 ?_
  refine G_callINc (as := []) (bc := 56) (bs := 2871) qX11_62 (x_iX6 (d + 1) _ 18 ⟨by decide +kernel, by decide +kernel⟩ rfl (by decide)) rfl rfl (Nat.le_of_ble_eq_true rfl) rfl rfl dX11_init_91 ?_
  refine G_putFR fX11_63 ⟨rfl, rfl⟩ rfl dX11_init_94 ⟨by decide +kernel, by decide +kernel⟩ ?_
  refine G_aload_n (i := 0) dX11_init_97 rfl rfl ?_
  refine G_newz (a := 24) (bc := 55) (bs := 2864) cl2 kX11_33 (by decide) rfl (by decide) (fun _ => by rfl) rfl rfl dX11_init_98 ?_
  refine G_dup dX11_init_101 ?_
  refine G_callINc (as := []) (bc := 51) (bs := 2828) qX11_35 (x_iX2 (d + 1) _ 24 ⟨by decide +kernel, by decide +kernel⟩ rfl (by decide)) rfl rfl (Nat.le_of_ble_eq_true rfl) rfl rfl dX11_init_102 ?_
  refine G_putFR fX11_67 ⟨rfl, rfl⟩ rfl dX11_init_105 ⟨by decide +kernel, by decide +kernel⟩ ?_
  refine G_aload_n (i := 0) dX11_init_108 rfl rfl ?_
  refine G_newz (a := 29) (bc := 50) (bs := 2821) cl2 kX11_33 (by decide) rfl (by decide) (fun _ => by rfl) rfl rfl dX11_init_109 ?_
  refine G_dup dX11_init_112 ?_
  refine G_callINc (as := []) (bc := 46) (bs := 2785) qX11_35 (x_iX2 (d + 1) _ 29 ⟨by decide +kernel, by decide +kernel⟩ rfl (by decide)) rfl rfl (Nat.le_of_ble_eq_true rfl) rfl rfl dX11_init_113 ?_
  refine G_putFR fX11_70 ⟨rfl, rfl⟩ rfl dX11_init_116 ⟨by decide +kernel, by decide +kernel⟩ ?_
  refine G_aload_n (i := 0) dX11_init_119 rfl rfl ?_
  refine G_newz (a := 34) (bc := 45) (bs := 2778) cl2 kX11_33 (by decide) rfl (by decide) (fun _ => by rfl) rfl rfl dX11_init_120 ?_
  refine G_dup dX11_init_123 ?_
  refine G_callINc (as := []) (bc := 41) (bs := 2742) qX11_35 (x_iX2 (d + 1) _ 34 ⟨by decide +kernel, by decide +kernel⟩ rfl (by decide)) rfl rfl (Nat.le_of_ble_eq_true rfl) rfl rfl dX11_init_124 ?_
  refine G_putFR fX11_73 ⟨rfl, rfl⟩ rfl dX11_init_127 ⟨by decide +kernel, by decide +kernel⟩ ?_
  refine G_aload_n (i := 0) dX11_init_130 rfl rfl ?_
  refine G_newz (a := 39) (bc := 40) (bs := 2734) cl7 kX11_76 (by decide) rfl (by decide) (fun _ => by rfl) rfl rfl dX11_init_131 ?_
  refine G_dup dX11_init_134 ?_
  refine G_callINc (as := []) (bc := 35) (bs := 2338) qX11_78 (x_iX7 d _ 39 ⟨by decide +kernel, by decide +kernel⟩ rfl (by decide)) rfl rfl (Nat.le_of_ble_eq_true rfl) rfl rfl dX11_init_135 ?_
  refine G_putFR fX11_79 ⟨rfl, rfl⟩ rfl dX11_init_138 ⟨by decide +kernel, by decide +kernel⟩ ?_
  refine G_aload_n (i := 0) dX11_init_141 rfl rfl ?_
  refine G_newz (a := 45) (bc := 34) (bs := 2331) cl3 kX11_83 (by decide) rfl (by decide) (fun _ => by rfl) rfl rfl dX11_init_142 ?_
  refine G_dup dX11_init_145 ?_
  refine G_callINc (as := []) (bc := 30) (bs := 1422) qX11_85 (x_iX3 (d + 1) _ 45 ⟨by decide +kernel, by decide +kernel⟩ rfl (by decide)) rfl rfl (Nat.le_of_ble_eq_true rfl) rfl rfl dX11_init_146 ?_
  refine G_putFR fX11_86 ⟨rfl, rfl⟩ rfl dX11_init_149 ⟨by decide +kernel, by decide +kernel⟩ ?_
  refine G_aload_n (i := 0) dX11_init_152 rfl rfl ?_
  refine G_newz (a := 50) (bc := 29) (bs := 1415) cl3 kX11_83 (by decide) rfl (by decide) (fun _ => by rfl) rfl rfl dX11_init_153 ?_
  refine G_dup dX11_init_156 ?_
  refine G_callINc (as := []) (bc := 25) (bs := 506) qX11_85 (x_iX3 (d + 1) _ 50 ⟨by decide +kernel, by decide +kernel⟩ rfl (by decide)) rfl rfl (Nat.le_of_ble_eq_true rfl) rfl rfl dX11_init_157 ?_
  refine G_putFR fX11_90 ⟨rfl, rfl⟩ rfl dX11_init_160 ⟨by decide +kernel, by decide +kernel⟩ ?_
  refine G_aload_n (i := 0) dX11_init_163 rfl rfl ?_
  refine G_newz (a := 55) (bc := 24) (bs := 501) cl4 kX11_93 (by decide) rfl (by decide) (fun _ => by rfl) rfl rfl dX11_init_164 ?_
  refine G_dup dX11_init_167 ?_
  refine G_callINc (as := []) (bc := 20) (bs := 434) qX11_95 (x_iX4 (d + 1) _ 55 ⟨by decide +kernel, by decide +kernel⟩ rfl (by decide)) rfl rfl (Nat.le_of_ble_eq_true rfl) rfl rfl dX11_init_168 ?_
  refine G_putFR fX11_96 ⟨rfl, rfl⟩ rfl dX11_init_171 ⟨by decide +kernel, by decide +kernel⟩ ?_
  refine G_aload_n (i := 0) dX11_init_174 rfl rfl ?_
  refine G_newz (a := 60) (bc := 19) (bs := 426) cl8 kX11_100 (by decide) rfl (by decide) (fun _ => by rfl) rfl rfl dX11_init_175 ?_
  refine G_dup dX11_init_178 ?_
  refine G_callINc (as := []) (bc := 13) (bs := 384) qX11_102 (x_iX8 (d + 1) _ 60 ⟨by decide +kernel, by decide +kernel⟩ rfl (by decide)) rfl rfl (Nat.le_of_ble_eq_true rfl) rfl rfl dX11_init_179 ?_
  refine G_putFR fX11_103 ⟨rfl, rfl⟩ rfl dX11_init_182 ⟨by decide +kernel, by decide +kernel⟩ ?_
  refine G_aload_n (i := 0) dX11_init_185 rfl rfl ?_
  refine G_bipush dX11_init_186 (by decide) ?_
  refine G_anewz (ci := 17) (N := 6) (a := 68) (bc := 12) (bs := 378) kX11_107 (by decide) (by decide) (by decide) rfl rfl (by decide) (fun _ => by rfl) rfl rfl dX11_init_188 ?_
  refine G_putFR fX11_109 ⟨rfl, rfl⟩ rfl dX11_init_191 ⟨by decide +kernel, by decide +kernel⟩ ?_
  refine G_iconst dX11_init_194 ?_
  refine G_istore_n (i := 1) (ls' := [some (.inr (some 0)), some (.inl 0)]) dX11_init_195 rfl (by decide) rfl ?_
  refine G_iload_n (i := 1) dX11_init_196 rfl rfl ?_
  refine G_bipush dX11_init_197 (by decide) ?_
  refine G_icmp_ge (tgt := 221) dX11_init_199 (by decide) (by decide) (by decide) (fun q => absurd q (by decide)) (fun _ => ?_)
  refine G_aload_n (i := 0) dX11_init_202 rfl rfl ?_
  refine G_getR (v := some 68) fX11_109 rfl dX11_init_203 ⟨by decide +kernel, by decide +kernel⟩ (by decide +kernel) ?_
  refine G_iload_n (i := 1) dX11_init_206 rfl rfl ?_
  refine G_newz (a := 69) (bc := 11) (bs := 375) cl10 kX11_107 (by decide) rfl (by decide) (fun _ => by rfl) rfl rfl dX11_init_207 ?_
  refine G_dup dX11_init_210 ?_
  refine G_callINc (as := []) (bc := 10) (bs := 315) qX11_113 (x_iX10 (d + 1) _ 69 ⟨by decide +kernel, by decide +kernel⟩ rfl (by decide) h0_ (fun _ => by rfl) (fun _ => by rfl)) rfl rfl (Nat.le_of_ble_eq_true rfl) rfl rfl dX11_init_211 ?_
  refine G_aast (n := 6) (ci := 17) (co := 10) (Or.inr (Or.inr ⟨rfl, rfl⟩)) rfl dX11_init_214 ⟨by decide +kernel, by decide +kernel, by decide +kernel, by decide⟩ ⟨by decide +kernel, by decide +kernel⟩ (by decide) ?_
  refine G_iinc (ls' := [some (.inr (some 0)), some (.inl 1)]) dX11_init_215 (by decide) rfl rfl ?_
  refine G_goto (tgt := 196) dX11_init_218 (by decide) ?_
  refine G_iload_n (i := 1) dX11_init_196 rfl rfl ?_
  refine G_bipush dX11_init_197 (by decide) ?_
  refine G_icmp_ge (tgt := 221) dX11_init_199 (by decide) (by decide) (by decide) (fun q => absurd q (by decide)) (fun _ => ?_)
  refine G_aload_n (i := 0) dX11_init_202 rfl rfl ?_
  refine G_getR (v := some 68) fX11_109 rfl dX11_init_203 ⟨by decide +kernel, by decide +kernel⟩ (by decide +kernel) ?_
  refine G_iload_n (i := 1) dX11_init_206 rfl rfl ?_
  refine G_newz (a := 71) (bc := 9) (bs := 312) cl10 kX11_107 (by decide) rfl (by decide) (fun _ => by rw [hs_na (by decide)]; rfl) rfl rfl dX11_init_207 ?_
  refine G_dup dX11_init_210 ?_
  refine G_callINc (as := []) (bc := 8) (bs := 252) qX11_113 (x_iX10 (d + 1) _ 71 ⟨by decide +kernel, by decide +kernel⟩ rfl (by decide) (hs_ h0_ 69 0 (-1)) (fun _ => by rw [hs_na (by decide)]; rfl) (fun _ => by rw [hs_na (by decide)]; rfl)) rfl rfl (Nat.le_of_ble_eq_true rfl) rfl rfl dX11_init_211 ?_
  refine G_aast (n := 6) (ci := 17) (co := 10) (Or.inr (Or.inr ⟨rfl, rfl⟩)) rfl dX11_init_214 ⟨by decide +kernel, by decide +kernel, by decide +kernel, by decide⟩ ⟨by decide +kernel, by decide +kernel⟩ (by decide) ?_
  refine G_iinc (ls' := [some (.inr (some 0)), some (.inl 2)]) dX11_init_215 (by decide) rfl rfl ?_
  refine G_goto (tgt := 196) dX11_init_218 (by decide) ?_
  refine G_iload_n (i := 1) dX11_init_196 rfl rfl ?_
  refine G_bipush dX11_init_197 (by decide) ?_
  refine G_icmp_ge (tgt := 221) dX11_init_199 (by decide) (by decide) (by decide) (fun q => absurd q (by decide)) (fun _ => ?_)
  refine G_aload_n (i := 0) dX11_init_202 rfl rfl ?_
  refine G_getR (v := some 68) fX11_109 rfl dX11_init_203 ⟨by decide +kernel, by decide +kernel⟩ (by decide +kernel) ?_
  refine G_iload_n (i := 1) dX11_init_206 rfl rfl ?_
  refine G_newz (a := 73) (bc := 7) (bs := 249) cl10 kX11_107 (by decide) rfl (by decide) (fun _ => by rw [hs_na (by decide), hs_na (by decide)]; rfl) rfl rfl dX11_init_207 ?_
  refine G_dup dX11_init_210 ?_
  refine G_callINc (as := []) (bc := 6) (bs := 189) qX11_113 (x_iX10 (d + 1) _ 73 ⟨by decide +kernel, by decide +kernel⟩ rfl (by decide) (hs_ (hs_ h0_ 69 0 (-1)) 71 0 (-1)) (fun _ => by rw [hs_na (by decide), hs_na (by decide)]; rfl) (fun _ => by rw [hs_na (by decide), hs_na (by decide)]; rfl)) rfl rfl (Nat.le_of_ble_eq_true rfl) rfl rfl dX11_init_211 ?_
  refine G_aast (n := 6) (ci := 17) (co := 10) (Or.inr (Or.inr ⟨rfl, rfl⟩)) rfl dX11_init_214 ⟨by decide +kernel, by decide +kernel, by decide +kernel, by decide⟩ ⟨by decide +kernel, by decide +kernel⟩ (by decide) ?_
  refine G_iinc (ls' := [some (.inr (some 0)), some (.inl 3)]) dX11_init_215 (by decide) rfl rfl ?_
  refine G_goto (tgt := 196) dX11_init_218 (by decide) ?_
  refine G_iload_n (i := 1) dX11_init_196 rfl rfl ?_
  refine G_bipush dX11_init_197 (by decide) ?_
  refine G_icmp_ge (tgt := 221) dX11_init_199 (by decide) (by decide) (by decide) (fun q => absurd q (by decide)) (fun _ => ?_)
  refine G_aload_n (i := 0) dX11_init_202 rfl rfl ?_
  refine G_getR (v := some 68) fX11_109 rfl dX11_init_203 ⟨by decide +kernel, by decide +kernel⟩ (by decide +kernel) ?_
  refine G_iload_n (i := 1) dX11_init_206 rfl rfl ?_
  refine G_newz (a := 75) (bc := 5) (bs := 186) cl10 kX11_107 (by decide) rfl (by decide) (fun _ => by rw [hs_na (by decide), hs_na (by decide), hs_na (by decide)]; rfl) rfl rfl dX11_init_207 ?_
  refine G_dup dX11_init_210 ?_
  refine G_callINc (as := []) (bc := 4) (bs := 126) qX11_113 (x_iX10 (d + 1) _ 75 ⟨by decide +kernel, by decide +kernel⟩ rfl (by decide) (hs_ (hs_ (hs_ h0_ 69 0 (-1)) 71 0 (-1)) 73 0 (-1)) (fun _ => by rw [hs_na (by decide), hs_na (by decide), hs_na (by decide)]; rfl) (fun _ => by rw [hs_na (by decide), hs_na (by decide), hs_na (by decide)]; rfl)) rfl rfl (Nat.le_of_ble_eq_true rfl) rfl rfl dX11_init_211 ?_
  refine G_aast (n := 6) (ci := 17) (co := 10) (Or.inr (Or.inr ⟨rfl, rfl⟩)) rfl dX11_init_214 ⟨by decide +kernel, by decide +kernel, by decide +kernel, by decide⟩ ⟨by decide +kernel, by decide +kernel⟩ (by decide) ?_
  refine G_iinc (ls' := [some (.inr (some 0)), some (.inl 4)]) dX11_init_215 (by decide) rfl rfl ?_
  refine G_goto (tgt := 196) dX11_init_218 (by decide) ?_
  refine G_iload_n (i := 1) dX11_init_196 rfl rfl ?_
  refine G_bipush dX11_init_197 (by decide) ?_
  refine G_icmp_ge (tgt := 221) dX11_init_199 (by decide) (by decide) (by decide) (fun q => absurd q (by decide)) (fun _ => ?_)
  refine G_aload_n (i := 0) dX11_init_202 rfl rfl ?_
  refine G_getR (v := some 68) fX11_109 rfl dX11_init_203 ⟨by decide +kernel, by decide +kernel⟩ (by decide +kernel) ?_
  refine G_iload_n (i := 1) dX11_init_206 rfl rfl ?_
  refine G_newz (a := 77) (bc := 3) (bs := 123) cl10 kX11_107 (by decide) rfl (by decide) (fun _ => by rw [hs_na (by decide), hs_na (by decide), hs_na (by decide), hs_na (by decide)]; rfl) rfl rfl dX11_init_207 ?_
  refine G_dup dX11_init_210 ?_
  refine G_callINc (as := []) (bc := 2) (bs := 63) qX11_113 (x_iX10 (d + 1) _ 77 ⟨by decide +kernel, by decide +kernel⟩ rfl (by decide) (hs_ (hs_ (hs_ (hs_ h0_ 69 0 (-1)) 71 0 (-1)) 73 0 (-1)) 75 0 (-1)) (fun _ => by rw [hs_na (by decide), hs_na (by decide), hs_na (by decide), hs_na (by decide)]; rfl) (fun _ => by rw [hs_na (by decide), hs_na (by decide), hs_na (by decide), hs_na (by decide)]; rfl)) rfl rfl (Nat.le_of_ble_eq_true rfl) rfl rfl dX11_init_211 ?_
  refine G_aast (n := 6) (ci := 17) (co := 10) (Or.inr (Or.inr ⟨rfl, rfl⟩)) rfl dX11_init_214 ⟨by decide +kernel, by decide +kernel, by decide +kernel, by decide⟩ ⟨by decide +kernel, by decide +kernel⟩ (by decide) ?_
  refine G_iinc (ls' := [some (.inr (some 0)), some (.inl 5)]) dX11_init_215 (by decide) rfl rfl ?_
  refine G_goto (tgt := 196) dX11_init_218 (by decide) ?_
  refine G_iload_n (i := 1) dX11_init_196 rfl rfl ?_
  refine G_bipush dX11_init_197 (by decide) ?_
  refine G_icmp_ge (tgt := 221) dX11_init_199 (by decide) (by decide) (by decide) (fun q => absurd q (by decide)) (fun _ => ?_)
  refine G_aload_n (i := 0) dX11_init_202 rfl rfl ?_
  refine G_getR (v := some 68) fX11_109 rfl dX11_init_203 ⟨by decide +kernel, by decide +kernel⟩ (by decide +kernel) ?_
  refine G_iload_n (i := 1) dX11_init_206 rfl rfl ?_
  refine G_newz (a := 79) (bc := 1) (bs := 60) cl10 kX11_107 (by decide) rfl (by decide) (fun _ => by rw [hs_na (by decide), hs_na (by decide), hs_na (by decide), hs_na (by decide), hs_na (by decide)]; rfl) rfl rfl dX11_init_207 ?_
  refine G_dup dX11_init_210 ?_
  refine G_callINc (as := []) (bc := 0) (bs := 0) qX11_113 (x_iX10 (d + 1) _ 79 ⟨by decide +kernel, by decide +kernel⟩ rfl (by decide) (hs_ (hs_ (hs_ (hs_ (hs_ h0_ 69 0 (-1)) 71 0 (-1)) 73 0 (-1)) 75 0 (-1)) 77 0 (-1)) (fun _ => by rw [hs_na (by decide), hs_na (by decide), hs_na (by decide), hs_na (by decide), hs_na (by decide)]; rfl) (fun _ => by rw [hs_na (by decide), hs_na (by decide), hs_na (by decide), hs_na (by decide), hs_na (by decide)]; rfl)) rfl rfl (Nat.le_of_ble_eq_true rfl) rfl rfl dX11_init_211 ?_
  refine G_aast (n := 6) (ci := 17) (co := 10) (Or.inr (Or.inr ⟨rfl, rfl⟩)) rfl dX11_init_214 ⟨by decide +kernel, by decide +kernel, by decide +kernel, by decide⟩ ⟨by decide +kernel, by decide +kernel⟩ (by decide) ?_
  refine G_iinc (ls' := [some (.inr (some 0)), some (.inl 6)]) dX11_init_215 (by decide) rfl rfl ?_
  refine G_goto (tgt := 196) dX11_init_218 (by decide) ?_
  refine G_iload_n (i := 1) dX11_init_196 rfl rfl ?_
  refine G_bipush dX11_init_197 (by decide) ?_
  refine G_icmp_ge (tgt := 221) dX11_init_199 (by decide) (by decide) (by decide) (fun _ => ?_) (fun q => absurd q (by decide))
  exact G_vret rfl dX11_init_221 ⟨rfl, rfl, rfl⟩
theorem H81_z {a : Nat} (j : Nat) (h : 81 ≤ a) : H81_ a j = 0 := by
  unfold H81_
  rw [hs_na (by omega), hs_na (by omega), hs_na (by omega), hs_na (by omega), hs_na (by omega), hs_na (by omega)]
  rfl
def T126_ : TT := (tr_ (tz_ 125 (tr_ (tz_ 124 (tr_ (tz_ 123 (tr_ (tz_ 122 (tr_ (tz_ 121 (tr_ (tz_ 120 (tr_ (tz_ 119 (tr_ (tz_ 118 (tr_ (tz_ 117 (tr_ (tz_ 116 (tr_ (tz_ 115 (tr_ (tz_ 114 (tr_ (tz_ 113 (tr_ (tz_ 112 (tr_ (tz_ 111 (tr_ (tz_ 110 (tr_ (tz_ 109 (tr_ (tz_ 108 (tr_ (tz_ 107 (tr_ (tz_ 106 (tr_ (tz_ 105 (tr_ (tz_ 104 (tr_ (tz_ 103 (tr_ (tz_ 102 (tr_ (tz_ 101 (tr_ (tz_ 100 (tr_ (tz_ 99 (tr_ (tz_ 98 (tr_ (tz_ 97 (tr_ (tz_ 96 (tr_ (tz_ 95 (tr_ (tz_ 94 (tr_ (tz_ 93 (tr_ (tz_ 92 (tr_ (tz_ 91 (tr_ (tz_ 90 (tr_ (tz_ 89 (tr_ (tz_ 88 (tr_ (tz_ 87 (tr_ (tz_ 86 (tr_ (tz_ 85 (tr_ (tz_ 84 (tr_ (tz_ 83 (tr_ (tz_ 82 (tz_ 81 T81_ 12 0) 13 15) 81 2 (some 82)) 13 15) 81 3 (some 83)) 13 15) 81 4 (some 84)) 13 9) 81 5 (some 85)) 13 9) 81 6 (some 86)) 13 9) 81 7 (some 87)) 13 9) 81 8 (some 88)) 13 9) 81 9 (some 89)) 13 9) 81 10 (some 90)) 13 9) 81 12 (some 91)) 13 9) 81 13 (some 92)) 13 300) 81 16 (some 93)) 13 9) 81 17 (some 94)) 13 900) 81 18 (some 95)) 13 900) 81 19 (some 96)) 13 40) 81 21 (some 97)) 13 40) 81 22 (some 98)) 13 40) 81 23 (some 99)) 13 9) 81 24 (some 100)) 13 9) 81 25 (some 101)) 13 11) 81 28 (some 102)) 13 3300) 81 29 (some 103)) 13 80) 81 30 (some 104)) 13 5) 81 33 (some 105)) 13 5) 81 34 (some 106)) 13 300) 81 35 (some 107)) 13 300) 81 36 (some 108)) 13 9) 81 39 (some 109)) 13 9) 81 40 (some 110)) 13 9) 81 41 (some 111)) 13 7) 81 44 (some 112)) 13 7) 81 45 (some 113)) 13 5040) 81 46 (some 114)) 13 5040) 81 47 (some 115)) 13 64) 81 48 (some 116)) 13 7) 81 50 (some 117)) 13 7) 81 51 (some 118)) 13 7) 81 52 (some 119)) 13 7) 81 53 (some 120)) 13 20) 81 56 (some 121)) 13 6) 81 57 (some 122)) 13 6) 81 58 (some 123)) 13 360) 81 59 (some 124)) 13 60) 81 60 (some 125))
def H126_ : HT := (hs_ (hs_ (hs_ (hs_ (hs_ (hs_ H81_ 122 0 (-1)) 122 1 (-1)) 122 2 (-1)) 122 3 (-1)) 122 4 (-1)) 122 5 (-1))
theorem x_iX12 (d : Nat)  : S_ mX12_init (d + 1) 44 17030 [.inr (some 81)] (tz_ 81 T81_ 12 0) H81_ (fun r τ1 h1 => r = none ∧ τ1 = T126_ ∧ h1 = H126_) := by
  refine S_go (k := 0) (ls := [some (.inr (some 81))]) (by decide) rfl (Nat.le_of_ble_eq_true rfl) rfl ?_
  refine G_aload_n (i := 0) dX12_init_0 rfl rfl ?_
  refine G_obj qX12_1 (Nat.le_of_ble_eq_true rfl) dX12_init_1 ?_
  refine G_aload_n (i := 0) dX12_init_4 rfl rfl ?_
  refine G_iconst dX12_init_5 ?_
  refine G_putI fX12_7 dX12_init_6 ⟨by decide +kernel, by decide +kernel⟩ ?_
  rw [hs_id (h := H81_) (a := 81) (k := 0) (v := 0) (H81_z _ (by decide))]
  refine G_aload_n (i := 0) dX12_init_9 rfl rfl ?_
  refine G_iconst dX12_init_10 ?_
  refine G_putI fX12_13 dX12_init_11 ⟨by decide +kernel, by decide +kernel⟩ ?_
  rw [hs_id (h := H81_) (a := 81) (k := 1) (v := 0) (H81_z _ (by decide))]
  refine G_aload_n (i := 0) dX12_init_14 rfl rfl ?_
  refine G_bipush dX12_init_15 (by decide) ?_
  refine G_newaIz (N := 15) (a := 82) (bc := 43) (bs := 17015) rfl acI (by decide) rfl rfl (by decide) (fun j => H81_z j (by decide)) rfl rfl dX12_init_17 ?_
  refine G_putFR fX12_16 ⟨rfl, rfl⟩ rfl dX12_init_19 ⟨by decide +kernel, by decide +kernel⟩ ?_
  refine G_aload_n (i := 0) dX12_init_22 rfl rfl ?_
  refine G_bipush dX12_init_23 (by decide) ?_
  refine G_newaIz (N := 15) (a := 83) (bc := 42) (bs := 17000) rfl acI (by decide) rfl rfl (by decide) (fun j => H81_z j (by decide)) rfl rfl dX12_init_25 ?_
  refine G_putFR fX12_20 ⟨rfl, rfl⟩ rfl dX12_init_27 ⟨by decide +kernel, by decide +kernel⟩ ?_
  refine G_aload_n (i := 0) dX12_init_30 rfl rfl ?_
  refine G_bipush dX12_init_31 (by decide) ?_
  refine G_newaIz (N := 15) (a := 84) (bc := 41) (bs := 16985) rfl acI (by decide) rfl rfl (by decide) (fun j => H81_z j (by decide)) rfl rfl dX12_init_33 ?_
  refine G_putFR fX12_23 ⟨rfl, rfl⟩ rfl dX12_init_35 ⟨by decide +kernel, by decide +kernel⟩ ?_
  refine G_aload_n (i := 0) dX12_init_38 rfl rfl ?_
  refine G_bipush dX12_init_39 (by decide) ?_
  refine G_newaIz (N := 9) (a := 85) (bc := 40) (bs := 16976) rfl acI (by decide) rfl rfl (by decide) (fun j => H81_z j (by decide)) rfl rfl dX12_init_41 ?_
  refine G_putFR fX12_26 ⟨rfl, rfl⟩ rfl dX12_init_43 ⟨by decide +kernel, by decide +kernel⟩ ?_
  refine G_aload_n (i := 0) dX12_init_46 rfl rfl ?_
  refine G_bipush dX12_init_47 (by decide) ?_
  refine G_newaIz (N := 9) (a := 86) (bc := 39) (bs := 16967) rfl acI (by decide) rfl rfl (by decide) (fun j => H81_z j (by decide)) rfl rfl dX12_init_49 ?_
  refine G_putFR fX12_29 ⟨rfl, rfl⟩ rfl dX12_init_51 ⟨by decide +kernel, by decide +kernel⟩ ?_
  refine G_aload_n (i := 0) dX12_init_54 rfl rfl ?_
  refine G_bipush dX12_init_55 (by decide) ?_
  refine G_newaIz (N := 9) (a := 87) (bc := 38) (bs := 16958) rfl acI (by decide) rfl rfl (by decide) (fun j => H81_z j (by decide)) rfl rfl dX12_init_57 ?_
  refine G_putFR fX12_32 ⟨rfl, rfl⟩ rfl dX12_init_59 ⟨by decide +kernel, by decide +kernel⟩ ?_
  refine G_aload_n (i := 0) dX12_init_62 rfl rfl ?_
  refine G_bipush dX12_init_63 (by decide) ?_
  refine G_newaIz (N := 9) (a := 88) (bc := 37) (bs := 16949) rfl acI (by decide) rfl rfl (by decide) (fun j => H81_z j (by decide)) rfl rfl dX12_init_65 ?_
  refine G_putFR fX12_35 ⟨rfl, rfl⟩ rfl dX12_init_67 ⟨by decide +kernel, by decide +kernel⟩ ?_
  refine G_aload_n (i := 0) dX12_init_70 rfl rfl ?_
  refine G_bipush dX12_init_71 (by decide) ?_
  refine G_newaIz (N := 9) (a := 89) (bc := 36) (bs := 16940) rfl acI (by decide) rfl rfl (by decide) (fun j => H81_z j (by decide)) rfl rfl dX12_init_73 ?_
  refine G_putFR fX12_38 ⟨rfl, rfl⟩ rfl dX12_init_75 ⟨by decide +kernel, by decide +kernel⟩ ?_
  refine G_aload_n (i := 0) dX12_init_78 rfl rfl ?_
  refine G_bipush dX12_init_79 (by decide) ?_
  refine G_newaIz (N := 9) (a := 90) (bc := 35) (bs := 16931) rfl acI (by decide) rfl rfl (by decide) (fun j => H81_z j (by decide)) rfl rfl dX12_init_81 ?_
  refine G_putFR fX12_41 ⟨rfl, rfl⟩ rfl dX12_init_83 ⟨by decide +kernel, by decide +kernel⟩ ?_
  refine G_aload_n (i := 0) dX12_init_86 rfl rfl ?_
  refine G_iconst dX12_init_87 ?_
  refine G_putZ fX12_44 (by decide) dX12_init_88 ⟨by decide +kernel, by decide +kernel⟩ ?_
  rw [hs_id (h := H81_) (a := 81) (k := 11) (v := 0) (H81_z _ (by decide))]
  refine G_aload_n (i := 0) dX12_init_91 rfl rfl ?_
  refine G_bipush dX12_init_92 (by decide) ?_
  refine G_newaIz (N := 9) (a := 91) (bc := 34) (bs := 16922) rfl acI (by decide) rfl rfl (by decide) (fun j => H81_z j (by decide)) rfl rfl dX12_init_94 ?_
  refine G_putFR fX12_48 ⟨rfl, rfl⟩ rfl dX12_init_96 ⟨by decide +kernel, by decide +kernel⟩ ?_
  refine G_aload_n (i := 0) dX12_init_99 rfl rfl ?_
  refine G_bipush dX12_init_100 (by decide) ?_
  refine G_newaIz (N := 9) (a := 92) (bc := 33) (bs := 16913) rfl acI (by decide) rfl rfl (by decide) (fun j => H81_z j (by decide)) rfl rfl dX12_init_102 ?_
  refine G_putFR fX12_51 ⟨rfl, rfl⟩ rfl dX12_init_104 ⟨by decide +kernel, by decide +kernel⟩ ?_
  refine G_aload_n (i := 0) dX12_init_107 rfl rfl ?_
  refine G_iconst dX12_init_108 ?_
  refine G_putI fX12_54 dX12_init_109 ⟨by decide +kernel, by decide +kernel⟩ ?_
  rw [hs_id (h := H81_) (a := 81) (k := 14) (v := 0) (H81_z _ (by decide))]
  refine G_aload_n (i := 0) dX12_init_112 rfl rfl ?_
  refine G_iconst dX12_init_113 ?_
  refine G_putI fX12_57 dX12_init_114 ⟨by decide +kernel, by decide +kernel⟩ ?_
  rw [hs_id (h := H81_) (a := 81) (k := 15) (v := 0) (H81_z _ (by decide))]
  refine G_aload_n (i := 0) dX12_init_117 rfl rfl ?_
  refine G_sipush dX12_init_118 (by decide) ?_
  refine G_newaIz (N := 300) (a := 93) (bc := 32) (bs := 16613) rfl acI (by decide) rfl rfl (by decide) (fun j => H81_z j (by decide)) rfl rfl dX12_init_121 ?_
  refine G_putFR fX12_60 ⟨rfl, rfl⟩ rfl dX12_init_123 ⟨by decide +kernel, by decide +kernel⟩ ?_
  refine G_aload_n (i := 0) dX12_init_126 rfl rfl ?_
  refine G_bipush dX12_init_127 (by decide) ?_
  refine G_newaIz (N := 9) (a := 94) (bc := 31) (bs := 16604) rfl acI (by decide) rfl rfl (by decide) (fun j => H81_z j (by decide)) rfl rfl dX12_init_129 ?_
  refine G_putFR fX12_63 ⟨rfl, rfl⟩ rfl dX12_init_131 ⟨by decide +kernel, by decide +kernel⟩ ?_
  refine G_aload_n (i := 0) dX12_init_134 rfl rfl ?_
  refine G_sipush dX12_init_135 (by decide) ?_
  refine G_newaIz (N := 900) (a := 95) (bc := 30) (bs := 15704) rfl acI (by decide) rfl rfl (by decide) (fun j => H81_z j (by decide)) rfl rfl dX12_init_138 ?_
  refine G_putFR fX12_66 ⟨rfl, rfl⟩ rfl dX12_init_140 ⟨by decide +kernel, by decide +kernel⟩ ?_
  refine G_aload_n (i := 0) dX12_init_143 rfl rfl ?_
  refine G_sipush dX12_init_144 (by decide) ?_
  refine G_newaIz (N := 900) (a := 96) (bc := 29) (bs := 14804) rfl acI (by decide) rfl rfl (by decide) (fun j => H81_z j (by decide)) rfl rfl dX12_init_147 ?_
  refine G_putFR fX12_69 ⟨rfl, rfl⟩ rfl dX12_init_149 ⟨by decide +kernel, by decide +kernel⟩ ?_
  refine G_aload_n (i := 0) dX12_init_152 rfl rfl ?_
  refine G_iconst dX12_init_153 ?_
  refine G_putI fX12_72 dX12_init_154 ⟨by decide +kernel, by decide +kernel⟩ ?_
  rw [hs_id (h := H81_) (a := 81) (k := 20) (v := 0) (H81_z _ (by decide))]
  refine G_aload_n (i := 0) dX12_init_157 rfl rfl ?_
  refine G_bipush dX12_init_158 (by decide) ?_
  refine G_newaIz (N := 40) (a := 97) (bc := 28) (bs := 14764) rfl acI (by decide) rfl rfl (by decide) (fun j => H81_z j (by decide)) rfl rfl dX12_init_160 ?_
  refine G_putFR fX12_75 ⟨rfl, rfl⟩ rfl dX12_init_162 ⟨by decide +kernel, by decide +kernel⟩ ?_
  refine G_aload_n (i := 0) dX12_init_165 rfl rfl ?_
  refine G_bipush dX12_init_166 (by decide) ?_
  refine G_newaIz (N := 40) (a := 98) (bc := 27) (bs := 14724) rfl acI (by decide) rfl rfl (by decide) (fun j => H81_z j (by decide)) rfl rfl dX12_init_168 ?_
  refine G_putFR fX12_78 ⟨rfl, rfl⟩ rfl dX12_init_170 ⟨by decide +kernel, by decide +kernel⟩ ?_
  refine G_aload_n (i := 0) dX12_init_173 rfl rfl ?_
  refine G_bipush dX12_init_174 (by decide) ?_
  refine G_newaIz (N := 40) (a := 99) (bc := 26) (bs := 14684) rfl acI (by decide) rfl rfl (by decide) (fun j => H81_z j (by decide)) rfl rfl dX12_init_176 ?_
  refine G_putFR fX12_81 ⟨rfl, rfl⟩ rfl dX12_init_178 ⟨by decide +kernel, by decide +kernel⟩ ?_
  refine G_aload_n (i := 0) dX12_init_181 rfl rfl ?_
  refine G_bipush dX12_init_182 (by decide) ?_
  refine G_newaIz (N := 9) (a := 100) (bc := 25) (bs := 14675) rfl acI (by decide) rfl rfl (by decide) (fun j => H81_z j (by decide)) rfl rfl dX12_init_184 ?_
  refine G_putFR fX12_84 ⟨rfl, rfl⟩ rfl dX12_init_186 ⟨by decide +kernel, by decide +kernel⟩ ?_
  refine G_aload_n (i := 0) dX12_init_189 rfl rfl ?_
  refine G_bipush dX12_init_190 (by decide) ?_
  refine G_newaIz (N := 9) (a := 101) (bc := 24) (bs := 14666) rfl acI (by decide) rfl rfl (by decide) (fun j => H81_z j (by decide)) rfl rfl dX12_init_192 ?_
  refine G_putFR fX12_87 ⟨rfl, rfl⟩ rfl dX12_init_194 ⟨by decide +kernel, by decide +kernel⟩ ?_
  refine G_aload_n (i := 0) dX12_init_197 rfl rfl ?_
  refine G_iconst dX12_init_198 ?_
  refine G_putI fX12_90 dX12_init_199 ⟨by decide +kernel, by decide +kernel⟩ ?_
  rw [hs_id (h := H81_) (a := 81) (k := 26) (v := 0) (H81_z _ (by decide))]
  refine G_aload_n (i := 0) dX12_init_202 rfl rfl ?_
  refine G_iconst dX12_init_203 ?_
  refine G_putI fX12_93 dX12_init_204 ⟨by decide +kernel, by decide +kernel⟩ ?_
  rw [hs_id (h := H81_) (a := 81) (k := 27) (v := 0) (H81_z _ (by decide))]
  refine G_aload_n (i := 0) dX12_init_207 rfl rfl ?_
  refine G_bipush dX12_init_208 (by decide) ?_
  refine G_newaIz (N := 11) (a := 102) (bc := 23) (bs := 14655) rfl acI (by decide) rfl rfl (by decide) (fun j => H81_z j (by decide)) rfl rfl dX12_init_210 ?_
  refine G_putFR fX12_96 ⟨rfl, rfl⟩ rfl dX12_init_212 ⟨by decide +kernel, by decide +kernel⟩ ?_
  refine G_aload_n (i := 0) dX12_init_215 rfl rfl ?_
  refine G_sipush dX12_init_216 (by decide) ?_
  refine G_newaIz (N := 3300) (a := 103) (bc := 22) (bs := 11355) rfl acI (by decide) rfl rfl (by decide) (fun j => H81_z j (by decide)) rfl rfl dX12_init_219 ?_
  refine G_putFR fX12_99 ⟨rfl, rfl⟩ rfl dX12_init_221 ⟨by decide +kernel, by decide +kernel⟩ ?_
  refine G_aload_n (i := 0) dX12_init_224 rfl rfl ?_
  refine G_bipush dX12_init_225 (by decide) ?_
  refine G_newaIz (N := 80) (a := 104) (bc := 21) (bs := 11275) rfl acI (by decide) rfl rfl (by decide) (fun j => H81_z j (by decide)) rfl rfl dX12_init_227 ?_
  refine G_putFR fX12_102 ⟨rfl, rfl⟩ rfl dX12_init_229 ⟨by decide +kernel, by decide +kernel⟩ ?_
  refine G_aload_n (i := 0) dX12_init_232 rfl rfl ?_
  refine G_iconst dX12_init_233 ?_
  refine G_putI fX12_105 dX12_init_234 ⟨by decide +kernel, by decide +kernel⟩ ?_
  rw [hs_id (h := H81_) (a := 81) (k := 31) (v := 0) (H81_z _ (by decide))]
  refine G_aload_n (i := 0) dX12_init_237 rfl rfl ?_
  refine G_iconst dX12_init_238 ?_
  refine G_putZ fX12_108 (by decide) dX12_init_239 ⟨by decide +kernel, by decide +kernel⟩ ?_
  rw [hs_id (h := H81_) (a := 81) (k := 32) (v := 0) (H81_z _ (by decide))]
  refine G_aload_n (i := 0) dX12_init_242 rfl rfl ?_
  refine G_iconst dX12_init_243 ?_
  refine G_newaIz (N := 5) (a := 105) (bc := 20) (bs := 11270) rfl acI (by decide) rfl rfl (by decide) (fun j => H81_z j (by decide)) rfl rfl dX12_init_244 ?_
  refine G_putFR fX12_111 ⟨rfl, rfl⟩ rfl dX12_init_246 ⟨by decide +kernel, by decide +kernel⟩ ?_
  refine G_aload_n (i := 0) dX12_init_249 rfl rfl ?_
  refine G_iconst dX12_init_250 ?_
  refine G_newaIz (N := 5) (a := 106) (bc := 19) (bs := 11265) rfl acI (by decide) rfl rfl (by decide) (fun j => H81_z j (by decide)) rfl rfl dX12_init_251 ?_
  refine G_putFR fX12_114 ⟨rfl, rfl⟩ rfl dX12_init_253 ⟨by decide +kernel, by decide +kernel⟩ ?_
  refine G_aload_n (i := 0) dX12_init_256 rfl rfl ?_
  refine G_sipush dX12_init_257 (by decide) ?_
  refine G_newaIz (N := 300) (a := 107) (bc := 18) (bs := 10965) rfl acI (by decide) rfl rfl (by decide) (fun j => H81_z j (by decide)) rfl rfl dX12_init_260 ?_
  refine G_putFR fX12_117 ⟨rfl, rfl⟩ rfl dX12_init_262 ⟨by decide +kernel, by decide +kernel⟩ ?_
  refine G_aload_n (i := 0) dX12_init_265 rfl rfl ?_
  refine G_sipush dX12_init_266 (by decide) ?_
  refine G_newaIz (N := 300) (a := 108) (bc := 17) (bs := 10665) rfl acI (by decide) rfl rfl (by decide) (fun j => H81_z j (by decide)) rfl rfl dX12_init_269 ?_
  refine G_putFR fX12_120 ⟨rfl, rfl⟩ rfl dX12_init_271 ⟨by decide +kernel, by decide +kernel⟩ ?_
  refine G_aload_n (i := 0) dX12_init_274 rfl rfl ?_
  refine G_iconst dX12_init_275 ?_
  refine G_putI fX12_123 dX12_init_276 ⟨by decide +kernel, by decide +kernel⟩ ?_
  rw [hs_id (h := H81_) (a := 81) (k := 37) (v := 0) (H81_z _ (by decide))]
  refine G_aload_n (i := 0) dX12_init_279 rfl rfl ?_
  refine G_iconst dX12_init_280 ?_
  refine G_putI fX12_126 dX12_init_281 ⟨by decide +kernel, by decide +kernel⟩ ?_
  rw [hs_id (h := H81_) (a := 81) (k := 38) (v := 0) (H81_z _ (by decide))]
  refine G_aload_n (i := 0) dX12_init_284 rfl rfl ?_
  refine G_bipush dX12_init_285 (by decide) ?_
  refine G_newaIz (N := 9) (a := 109) (bc := 16) (bs := 10656) rfl acI (by decide) rfl rfl (by decide) (fun j => H81_z j (by decide)) rfl rfl dX12_init_287 ?_
  refine G_putFR fX12_129 ⟨rfl, rfl⟩ rfl dX12_init_289 ⟨by decide +kernel, by decide +kernel⟩ ?_
  refine G_aload_n (i := 0) dX12_init_292 rfl rfl ?_
  refine G_bipush dX12_init_293 (by decide) ?_
  refine G_newaIz (N := 9) (a := 110) (bc := 15) (bs := 10647) rfl acI (by decide) rfl rfl (by decide) (fun j => H81_z j (by decide)) rfl rfl dX12_init_295 ?_
  refine G_putFR fX12_132 ⟨rfl, rfl⟩ rfl dX12_init_297 ⟨by decide +kernel, by decide +kernel⟩ ?_
  refine G_aload_n (i := 0) dX12_init_300 rfl rfl ?_
  refine G_bipush dX12_init_301 (by decide) ?_
  refine G_newaIz (N := 9) (a := 111) (bc := 14) (bs := 10638) rfl acI (by decide) rfl rfl (by decide) (fun j => H81_z j (by decide)) rfl rfl dX12_init_303 ?_
  refine G_putFR fX12_135 ⟨rfl, rfl⟩ rfl dX12_init_305 ⟨by decide +kernel, by decide +kernel⟩ ?_
  refine G_aload_n (i := 0) dX12_init_308 rfl rfl ?_
  refine G_iconst dX12_init_309 ?_
  refine G_putI fX12_138 dX12_init_310 ⟨by decide +kernel, by decide +kernel⟩ ?_
  rw [hs_id (h := H81_) (a := 81) (k := 42) (v := 0) (H81_z _ (by decide))]
  refine G_aload_n (i := 0) dX12_init_313 rfl rfl ?_
  refine G_iconst dX12_init_314 ?_
  refine G_putI fX12_141 dX12_init_315 ⟨by decide +kernel, by decide +kernel⟩ ?_
  rw [hs_id (h := H81_) (a := 81) (k := 43) (v := 0) (H81_z _ (by decide))]
  refine G_aload_n (i := 0) dX12_init_318 rfl rfl ?_
  refine G_bipush dX12_init_319 (by decide) ?_
  refine G_newaIz (N := 7) (a := 112) (bc := 13) (bs := 10631) rfl acI (by decide) rfl rfl (by decide) (fun j => H81_z j (by decide)) rfl rfl dX12_init_321 ?_
  refine G_putFR fX12_144 ⟨rfl, rfl⟩ rfl dX12_init_323 ⟨by decide +kernel, by decide +kernel⟩ ?_
  refine G_aload_n (i := 0) dX12_init_326 rfl rfl ?_
  refine G_bipush dX12_init_327 (by decide) ?_
  refine G_newaIz (N := 7) (a := 113) (bc := 12) (bs := 10624) rfl acI (by decide) rfl rfl (by decide) (fun j => H81_z j (by decide)) rfl rfl dX12_init_329 ?_
  refine G_putFR fX12_147 ⟨rfl, rfl⟩ rfl dX12_init_331 ⟨by decide +kernel, by decide +kernel⟩ ?_
  refine G_aload_n (i := 0) dX12_init_334 rfl rfl ?_
  refine G_sipush dX12_init_335 (by decide) ?_
  refine G_newaIz (N := 5040) (a := 114) (bc := 11) (bs := 5584) rfl acI (by decide) rfl rfl (by decide) (fun j => H81_z j (by decide)) rfl rfl dX12_init_338 ?_
  refine G_putFR fX12_150 ⟨rfl, rfl⟩ rfl dX12_init_340 ⟨by decide +kernel, by decide +kernel⟩ ?_
  refine G_aload_n (i := 0) dX12_init_343 rfl rfl ?_
  refine G_sipush dX12_init_344 (by decide) ?_
  refine G_newaIz (N := 5040) (a := 115) (bc := 10) (bs := 544) rfl acI (by decide) rfl rfl (by decide) (fun j => H81_z j (by decide)) rfl rfl dX12_init_347 ?_
  refine G_putFR fX12_153 ⟨rfl, rfl⟩ rfl dX12_init_349 ⟨by decide +kernel, by decide +kernel⟩ ?_
  refine G_aload_n (i := 0) dX12_init_352 rfl rfl ?_
  refine G_bipush dX12_init_353 (by decide) ?_
  refine G_newaIz (N := 64) (a := 116) (bc := 9) (bs := 480) rfl acI (by decide) rfl rfl (by decide) (fun j => H81_z j (by decide)) rfl rfl dX12_init_355 ?_
  refine G_putFR fX12_156 ⟨rfl, rfl⟩ rfl dX12_init_357 ⟨by decide +kernel, by decide +kernel⟩ ?_
  refine G_aload_n (i := 0) dX12_init_360 rfl rfl ?_
  refine G_iconst dX12_init_361 ?_
  refine G_putI fX12_159 dX12_init_362 ⟨by decide +kernel, by decide +kernel⟩ ?_
  rw [hs_id (h := H81_) (a := 81) (k := 49) (v := 0) (H81_z _ (by decide))]
  refine G_aload_n (i := 0) dX12_init_365 rfl rfl ?_
  refine G_bipush dX12_init_366 (by decide) ?_
  refine G_newaIz (N := 7) (a := 117) (bc := 8) (bs := 473) rfl acI (by decide) rfl rfl (by decide) (fun j => H81_z j (by decide)) rfl rfl dX12_init_368 ?_
  refine G_putFR fX12_162 ⟨rfl, rfl⟩ rfl dX12_init_370 ⟨by decide +kernel, by decide +kernel⟩ ?_
  refine G_aload_n (i := 0) dX12_init_373 rfl rfl ?_
  refine G_bipush dX12_init_374 (by decide) ?_
  refine G_newaIz (N := 7) (a := 118) (bc := 7) (bs := 466) rfl acI (by decide) rfl rfl (by decide) (fun j => H81_z j (by decide)) rfl rfl dX12_init_376 ?_
  refine G_putFR fX12_165 ⟨rfl, rfl⟩ rfl dX12_init_378 ⟨by decide +kernel, by decide +kernel⟩ ?_
  refine G_aload_n (i := 0) dX12_init_381 rfl rfl ?_
  refine G_bipush dX12_init_382 (by decide) ?_
  refine G_newaIz (N := 7) (a := 119) (bc := 6) (bs := 459) rfl acI (by decide) rfl rfl (by decide) (fun j => H81_z j (by decide)) rfl rfl dX12_init_384 ?_
  refine G_putFR fX12_168 ⟨rfl, rfl⟩ rfl dX12_init_386 ⟨by decide +kernel, by decide +kernel⟩ ?_
  refine G_aload_n (i := 0) dX12_init_389 rfl rfl ?_
  refine G_bipush dX12_init_390 (by decide) ?_
  refine G_newaIz (N := 7) (a := 120) (bc := 5) (bs := 452) rfl acI (by decide) rfl rfl (by decide) (fun j => H81_z j (by decide)) rfl rfl dX12_init_392 ?_
  refine G_putFR fX12_171 ⟨rfl, rfl⟩ rfl dX12_init_394 ⟨by decide +kernel, by decide +kernel⟩ ?_
  refine G_aload_n (i := 0) dX12_init_397 rfl rfl ?_
  refine G_iconst dX12_init_398 ?_
  refine G_putI fX12_174 dX12_init_399 ⟨by decide +kernel, by decide +kernel⟩ ?_
  rw [hs_id (h := H81_) (a := 81) (k := 54) (v := 0) (H81_z _ (by decide))]
  refine G_aload_n (i := 0) dX12_init_402 rfl rfl ?_
  refine G_iconst dX12_init_403 ?_
  refine G_putI fX12_177 dX12_init_404 ⟨by decide +kernel, by decide +kernel⟩ ?_
  rw [hs_id (h := H81_) (a := 81) (k := 55) (v := 0) (H81_z _ (by decide))]
  refine G_aload_n (i := 0) dX12_init_407 rfl rfl ?_
  refine G_bipush dX12_init_408 (by decide) ?_
  refine G_newaIz (N := 20) (a := 121) (bc := 4) (bs := 432) rfl acI (by decide) rfl rfl (by decide) (fun j => H81_z j (by decide)) rfl rfl dX12_init_410 ?_
  refine G_putFR fX12_180 ⟨rfl, rfl⟩ rfl dX12_init_412 ⟨by decide +kernel, by decide +kernel⟩ ?_
  refine G_aload_n (i := 0) dX12_init_415 rfl rfl ?_
  refine G_bipush dX12_init_416 (by decide) ?_
  refine G_newaIz (N := 6) (a := 122) (bc := 3) (bs := 426) rfl acI (by decide) rfl rfl (by decide) (fun j => H81_z j (by decide)) rfl rfl dX12_init_418 ?_
  refine G_dup dX12_init_420 ?_
  refine G_iconst dX12_init_421 ?_
  refine G_iconst dX12_init_422 ?_
  refine G_iastk (n := 6) 0 dX12_init_423 ⟨by decide +kernel, by decide +kernel, by decide +kernel, by decide⟩ (by decide) rfl ?_
  refine G_dup dX12_init_424 ?_
  refine G_iconst dX12_init_425 ?_
  refine G_iconst dX12_init_426 ?_
  refine G_iastk (n := 6) 1 dX12_init_427 ⟨by decide +kernel, by decide +kernel, by decide +kernel, by decide⟩ (by decide) rfl ?_
  refine G_dup dX12_init_428 ?_
  refine G_iconst dX12_init_429 ?_
  refine G_iconst dX12_init_430 ?_
  refine G_iastk (n := 6) 2 dX12_init_431 ⟨by decide +kernel, by decide +kernel, by decide +kernel, by decide⟩ (by decide) rfl ?_
  refine G_dup dX12_init_432 ?_
  refine G_iconst dX12_init_433 ?_
  refine G_iconst dX12_init_434 ?_
  refine G_iastk (n := 6) 3 dX12_init_435 ⟨by decide +kernel, by decide +kernel, by decide +kernel, by decide⟩ (by decide) rfl ?_
  refine G_dup dX12_init_436 ?_
  refine G_iconst dX12_init_437 ?_
  refine G_iconst dX12_init_438 ?_
  refine G_iastk (n := 6) 4 dX12_init_439 ⟨by decide +kernel, by decide +kernel, by decide +kernel, by decide⟩ (by decide) rfl ?_
  refine G_dup dX12_init_440 ?_
  refine G_iconst dX12_init_441 ?_
  refine G_iconst dX12_init_442 ?_
  refine G_iastk (n := 6) 5 dX12_init_443 ⟨by decide +kernel, by decide +kernel, by decide +kernel, by decide⟩ (by decide) rfl ?_
  refine G_putFR fX12_183 ⟨rfl, rfl⟩ rfl dX12_init_444 ⟨by decide +kernel, by decide +kernel⟩ ?_
  refine G_aload_n (i := 0) dX12_init_447 rfl rfl ?_
  refine G_bipush dX12_init_448 (by decide) ?_
  refine G_newaIz (N := 6) (a := 123) (bc := 2) (bs := 420) rfl acI (by decide) rfl rfl (by decide) (fun j => by rw [hs_na (by decide), hs_na (by decide), hs_na (by decide), hs_na (by decide), hs_na (by decide), hs_na (by decide)]; exact H81_z j (by decide)) rfl rfl dX12_init_450 ?_
  refine G_putFR fX12_186 ⟨rfl, rfl⟩ rfl dX12_init_452 ⟨by decide +kernel, by decide +kernel⟩ ?_
  refine G_aload_n (i := 0) dX12_init_455 rfl rfl ?_
  refine G_sipush dX12_init_456 (by decide) ?_
  refine G_newaIz (N := 360) (a := 124) (bc := 1) (bs := 60) rfl acI (by decide) rfl rfl (by decide) (fun j => by rw [hs_na (by decide), hs_na (by decide), hs_na (by decide), hs_na (by decide), hs_na (by decide), hs_na (by decide)]; exact H81_z j (by decide)) rfl rfl dX12_init_459 ?_
  refine G_putFR fX12_189 ⟨rfl, rfl⟩ rfl dX12_init_461 ⟨by decide +kernel, by decide +kernel⟩ ?_
  refine G_aload_n (i := 0) dX12_init_464 rfl rfl ?_
  refine G_bipush dX12_init_465 (by decide) ?_
  refine G_newaIz (N := 60) (a := 125) (bc := 0) (bs := 0) rfl acI (by decide) rfl rfl (by decide) (fun j => by rw [hs_na (by decide), hs_na (by decide), hs_na (by decide), hs_na (by decide), hs_na (by decide), hs_na (by decide)]; exact H81_z j (by decide)) rfl rfl dX12_init_467 ?_
  refine G_putFR fX12_192 ⟨rfl, rfl⟩ rfl dX12_init_469 ⟨by decide +kernel, by decide +kernel⟩ ?_
  exact G_vret rfl dX12_init_472 ⟨rfl, rfl, rfl⟩
theorem H126_z {a : Nat} (j : Nat) (h : (a < 69 ∨ 80 < a) ∧ a ≠ 122) : H126_ a j = 0 := by
  unfold H126_ H81_
  rw [hs_na (by omega), hs_na (by omega), hs_na (by omega), hs_na (by omega), hs_na (by omega), hs_na (by omega), hs_na (by omega), hs_na (by omega), hs_na (by omega), hs_na (by omega), hs_na (by omega), hs_na (by omega)]
  rfl
theorem H126_s : ∀ t : Nat, t < 6 → H126_ 122 t = -1 := by decide +kernel
theorem H126_t : ∀ t : Nat, t < 6 → H126_ (69 + 2 * t) 0 = -1 ∧ H126_ (69 + 2 * t) 1 = 0 := by decide +kernel
theorem TK_0 : TK T126_ := by
  refine ⟨by decide +kernel, by decide +kernel, fun a k h => ?_, fun a n h => ?_, fun i q h => ?_⟩
  · have ha : a < 126 := (List.getElem?_eq_some_iff.mp h).1
    have e : ∀ a : Nat, a < 126 → LK_[a]? = some (T126_.2.1 a) := by decide +kernel
    rw [e a ha] at h
    exact Option.some.inj h
  · have ha : a < 126 := (List.getElem?_eq_some_iff.mp h).1
    have e : ∀ a : Nat, a < 126 → LN_[a]? = some (T126_.2.2.1 a) := by decide +kernel
    rw [e a ha] at h
    exact Option.some.inj h
  · have hi : i < 123 := (List.getElem?_eq_some_iff.mp h).1
    have e : ∀ i : Nat, i < 123 → T126_.2.2.2 (LR_.getD i (0, 0, 0)).1 (LR_.getD i (0, 0, 0)).2.1 = some (LR_.getD i (0, 0, 0)).2.2 := by decide +kernel
    have e2 := e i hi
    rw [List.getD_eq_getElem?_getD, h] at e2
    exact e2
theorem SIM_0 : SIM T126_ H126_ := by
  have z0 : ∀ k, H126_ 0 k = 0 := fun k => H126_z k (by decide)
  have z2 : ∀ k, H126_ 2 k = 0 := fun k => H126_z k (by decide)
  have z3 : ∀ k, H126_ 3 k = 0 := fun k => H126_z k (by decide)
  have z4 : ∀ k, H126_ 4 k = 0 := fun k => H126_z k (by decide)
  have z5 : ∀ k, H126_ 5 k = 0 := fun k => H126_z k (by decide)
  have z6 : ∀ k, H126_ 6 k = 0 := fun k => H126_z k (by decide)
  have z7 : ∀ k, H126_ 7 k = 0 := fun k => H126_z k (by decide)
  have z8 : ∀ k, H126_ 8 k = 0 := fun k => H126_z k (by decide)
  have z9 : ∀ k, H126_ 9 k = 0 := fun k => H126_z k (by decide)
  have z11 : ∀ k, H126_ 11 k = 0 := fun k => H126_z k (by decide)
  have z12 : ∀ k, H126_ 12 k = 0 := fun k => H126_z k (by decide)
  have z13 : ∀ k, H126_ 13 k = 0 := fun k => H126_z k (by decide)
  have z14 : ∀ k, H126_ 14 k = 0 := fun k => H126_z k (by decide)
  have z15 : ∀ k, H126_ 15 k = 0 := fun k => H126_z k (by decide)
  have z16 : ∀ k, H126_ 16 k = 0 := fun k => H126_z k (by decide)
  have z17 : ∀ k, H126_ 17 k = 0 := fun k => H126_z k (by decide)
  have z18 : ∀ k, H126_ 18 k = 0 := fun k => H126_z k (by decide)
  have z19 : ∀ k, H126_ 19 k = 0 := fun k => H126_z k (by decide)
  have z20 : ∀ k, H126_ 20 k = 0 := fun k => H126_z k (by decide)
  have z21 : ∀ k, H126_ 21 k = 0 := fun k => H126_z k (by decide)
  have z24 : ∀ k, H126_ 24 k = 0 := fun k => H126_z k (by decide)
  have z39 : ∀ k, H126_ 39 k = 0 := fun k => H126_z k (by decide)
  have z41 : ∀ k, H126_ 41 k = 0 := fun k => H126_z k (by decide)
  have z81 : ∀ k, H126_ 81 k = 0 := fun k => H126_z k (by decide)
  have z82 : ∀ k, H126_ 82 k = 0 := fun k => H126_z k (by decide)
  have z83 : ∀ k, H126_ 83 k = 0 := fun k => H126_z k (by decide)
  have z84 : ∀ k, H126_ 84 k = 0 := fun k => H126_z k (by decide)
  have z85 : ∀ k, H126_ 85 k = 0 := fun k => H126_z k (by decide)
  have z86 : ∀ k, H126_ 86 k = 0 := fun k => H126_z k (by decide)
  have z87 : ∀ k, H126_ 87 k = 0 := fun k => H126_z k (by decide)
  have z88 : ∀ k, H126_ 88 k = 0 := fun k => H126_z k (by decide)
  have z89 : ∀ k, H126_ 89 k = 0 := fun k => H126_z k (by decide)
  have z90 : ∀ k, H126_ 90 k = 0 := fun k => H126_z k (by decide)
  have z93 : ∀ k, H126_ 93 k = 0 := fun k => H126_z k (by decide)
  have z94 : ∀ k, H126_ 94 k = 0 := fun k => H126_z k (by decide)
  have z95 : ∀ k, H126_ 95 k = 0 := fun k => H126_z k (by decide)
  have z96 : ∀ k, H126_ 96 k = 0 := fun k => H126_z k (by decide)
  have z97 : ∀ k, H126_ 97 k = 0 := fun k => H126_z k (by decide)
  have z98 : ∀ k, H126_ 98 k = 0 := fun k => H126_z k (by decide)
  have z99 : ∀ k, H126_ 99 k = 0 := fun k => H126_z k (by decide)
  have z100 : ∀ k, H126_ 100 k = 0 := fun k => H126_z k (by decide)
  have z102 : ∀ k, H126_ 102 k = 0 := fun k => H126_z k (by decide)
  have z103 : ∀ k, H126_ 103 k = 0 := fun k => H126_z k (by decide)
  have z104 : ∀ k, H126_ 104 k = 0 := fun k => H126_z k (by decide)
  have z121 : ∀ k, H126_ 121 k = 0 := fun k => H126_z k (by decide)
  have z123 : ∀ k, H126_ 123 k = 0 := fun k => H126_z k (by decide)
  have z124 : ∀ k, H126_ 124 k = 0 := fun k => H126_z k (by decide)
  refine ⟨TK_0, ⟨?_, ?_, ?_, ?_, ?_, ?_, ?_, ?_, ?_, ?_, ?_, ?_, ?_, ?_, ?_, ?_, ?_, ?_, ?_, ?_, ?_, ?_, ?_, ?_, ?_, ?_, ?_, ?_, ?_, ?_, ?_, ?_⟩, ⟨?_, ?_, ?_, ?_, ?_, ?_, ?_, ?_, ?_, ?_, ?_, ?_, ?_, ?_, ?_, ?_, ?_, ?_, ?_, ?_, ?_, ?_, ?_, ?_, ?_, ?_, ?_, ?_, ?_⟩⟩
  · simp only [z81]; (first | (intros; omega) | (intros; exfalso; omega))
  · exact Or.inl (z81 1)
  · exact Or.inl (z81 11)
  · simp only [z81]; (first | (intros; omega) | (intros; exfalso; omega))
  · simp only [z81]; (first | (intros; omega) | (intros; exfalso; omega))
  · simp only [z81]; (first | (intros; omega) | (intros; exfalso; omega))
  · simp only [z81]; (first | (intros; omega) | (intros; exfalso; omega))
  · simp only [z81]; (first | (intros; omega) | (intros; exfalso; omega))
  · simp only [z81]; (first | (intros; omega) | (intros; exfalso; omega))
  · simp only [z82]; (first | (intros; omega) | (intros; exfalso; omega))
  · simp only [z83]; (first | (intros; omega) | (intros; exfalso; omega))
  · simp only [z84]; (first | (intros; omega) | (intros; exfalso; omega))
  · simp only [z85]; (first | (intros; omega) | (intros; exfalso; omega))
  · simp only [z81, z86]; (first | (intros; omega) | (intros; exfalso; omega))
  · simp only [z81, z86]; (first | (intros; omega) | (intros; exfalso; omega))
  · simp only [z87]; (first | (intros; omega) | (intros; exfalso; omega))
  · simp only [z88]; (first | (intros; omega) | (intros; exfalso; omega))
  · simp only [z89]; (first | (intros; omega) | (intros; exfalso; omega))
  · simp only [z90]; (first | (intros; omega) | (intros; exfalso; omega))
  · simp only [z81, z93]; (first | (intros; omega) | (intros; exfalso; omega))
  · simp only [z94]; (first | (intros; omega) | (intros; exfalso; omega))
  · simp only [z95]; (first | (intros; omega) | (intros; exfalso; omega))
  · simp only [z96]; (first | (intros; omega) | (intros; exfalso; omega))
  · simp only [z97]; (first | (intros; omega) | (intros; exfalso; omega))
  · simp only [z98]; (first | (intros; omega) | (intros; exfalso; omega))
  · simp only [z99]; (first | (intros; omega) | (intros; exfalso; omega))
  · simp only [z81, z102]; (first | (intros; omega) | (intros; exfalso; omega))
  · simp only [z81, z102, z103]; (first | (intros; omega) | (intros; exfalso; omega))
  · simp only [z104]; (first | (intros; omega) | (intros; exfalso; omega))
  · intro k hk; rw [H126_s k hk]; omega
  · simp only [z123]; (first | (intros; omega) | (intros; exfalso; omega))
  · simp only [z124]; (first | (intros; omega) | (intros; exfalso; omega))
  · simp only [z0, z81]; (first | done | (first | (intros; omega) | (intros; exfalso; omega)) | trivial)
  · simp only [z81, z82, z83, z84]; (first | done | (first | (intros; omega) | (intros; exfalso; omega)) | trivial)
  · simp only [z2, z81]; (first | done | (first | (intros; omega) | (intros; exfalso; omega)) | trivial)
  · simp only [z3, z121]; (first | done | (first | (intros; omega) | (intros; exfalso; omega)) | trivial)
  · simp only [z4, z81, z85, z86]; (first | done | (first | (intros; omega) | (intros; exfalso; omega)) | trivial)
  · simp only [z4]; (first | done | (first | (intros; omega) | (intros; exfalso; omega)) | trivial)
  · simp only [z5, z87]; (first | done | (first | (intros; omega) | (intros; exfalso; omega)) | trivial)
  · simp only [z6, z81]; exact ⟨trivial, trivial, trivial⟩
  · simp only [z7, z81, z86]; (first | done | (first | (intros; omega) | (intros; exfalso; omega)) | trivial)
  · simp only [z8, z81, z88]; (first | done | (first | (intros; omega) | (intros; exfalso; omega)) | trivial)
  · simp only [z9, z81, z94]; (first | done | (first | (intros; omega) | (intros; exfalso; omega)) | trivial)
  · simp only [z0, z81]; (first | done | (first | (intros; omega) | (intros; exfalso; omega)) | trivial)
  · simp only [z11, z81]; (first | done | (first | (intros; omega) | (intros; exfalso; omega)) | trivial)
  · simp only [z12, z81, z93]; (first | done | (first | (intros; omega) | (intros; exfalso; omega)) | trivial)
  · simp only [z13, z81]; exact ⟨trivial, trivial⟩
  · simp only [z14, z15, z16, z81, z95, z96]; (first | done | (first | (intros; omega) | (intros; exfalso; omega)) | trivial)
  · simp only [z14, z15]; (first | done | (first | (intros; omega) | (intros; exfalso; omega)) | trivial)
  · simp only [z17]; (first | done | (first | (intros; omega) | (intros; exfalso; omega)) | trivial)
  · simp only [z17, z81, z90]; (first | done | (first | (intros; omega) | (intros; exfalso; omega)) | trivial)
  · exact ⟨(z18 3).trans (z81 20).symm, fun k _ => ⟨(z19 k).trans (z97 k).symm, (z20 k).trans (z98 k).symm, (z21 k).trans (z99 k).symm⟩⟩
  · intro q; exact absurd (z81 11) q
  · rw [z81]; exact ⟨z39 1 |>.trans rfl, by decide, fun f hf => absurd hf (Nat.not_lt_zero _)⟩
  · simp only [z39, z41, z81, z104]; exact ⟨trivial, fun _ _ => by omega, fun _ q => by omega⟩
  · intro t ht; rw [H126_s t ht, (H126_t t ht).1, (H126_t t ht).2]; refine ⟨rfl, (z123 t).symm, fun i hi => ?_⟩; rw [z123] at hi; omega
  · simp only [z81, z86]; (first | done | (first | (intros; omega) | (intros; exfalso; omega)) | trivial)
  · intro t ht _; exact z123 t
  · intro r p hr _; rw [z81] at hr; omega
  · simp only [z100]; (first | done | (first | (intros; omega) | (intros; exfalso; omega)) | trivial)
  · rw [z81, z81]; decide +kernel
