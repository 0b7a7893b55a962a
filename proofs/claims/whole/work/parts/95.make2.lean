/-! constructors -/
def tz_ (a : Nat) (τ : TT) (k len : Nat) : TT := (a + 1, fun b => if b = a then k else τ.2.1 b, fun b => if b = a then len else τ.2.2.1 b, fun b i => if b = a then none else τ.2.2.2 b i)
def t0_ : TT := (0, fun _ => 0, fun _ => 0, fun _ _ => none)
def h0_ : HT := fun _ _ => 0
theorem hn_id {τ : TT} {h : HT} (hz : ∀ j, h τ.1 j = 0) : hn_ τ h = h := by
  funext b j
  show (if b = τ.1 then 0 else h b j) = h b j
  by_cases e : b = τ.1
  · rw [if_pos e, e, hz j]
  · rw [if_neg e]
theorem hs_id {h : HT} {a k : Nat} {v : Int} (e : h a k = v) : hs_ h a k v = h := by
  funext b j
  show (if b = a ∧ j = k then v else h b j) = h b j
  by_cases q : b = a ∧ j = k
  · rw [if_pos q, q.1, q.2, e]
  · rw [if_neg q]
theorem ob_z {τ : TT} {a c k len b : Nat} (ha : τ.1 = b) (h : ob_ τ a c) : ob_ (tz_ b τ k len) a c := by subst ha; exact ob_n h
theorem ob_z0 {τ : TT} {k len b : Nat} : ob_ (tz_ b τ k len) b k := ⟨Nat.lt_succ_self _, if_pos rfl⟩
section GZ
variable {M : MT} {d bc bs pc : Nat} {ls : List (Option AV)} {st : List AV} {τ : TT} {h : HT} {Z : ZT}
theorem G_newz {idx ci N a BC BS : Nat} {C : String} {T : u_T} {ty : Nat → FieldType} (hc : gb_cls ci C T N ty) (hl : Cond.classLink M.2.1 idx C ∈ gb_LW) (hdv : ∀ j, j < N → gb_dv (ty j) = true) (ha : τ.1 = a) (ht : a < 900000 ∧ a ≠ 64) (hz : ∀ j, h a j = 0) (e1 : BC = 1 + bc) (e2 : BS = N + bs) (hd : decode M.1 pc = .ok (.new idx, 3)) (kk : G_ M d bc bs (pc + 3) ls (.inr (some a) :: st) (tz_ a τ ci 0) h Z) : G_ M d BC BS pc ls st τ h Z := by
  subst ha; subst e1; subst e2
  exact G_new hc hl hdv (by omega) hd (by rw [hn_id hz]; exact kk)
theorem G_newaIz {aty : ArrayType} {n : Int} {N a BC BS : Nat} (hty : newarray.typeOf aty = .int) (hw : Cond.arrayClass .int ∈ gb_LW) (hn : 0 ≤ n ∧ n < 100000) (e0 : n.toNat = N) (ha : τ.1 = a) (ht : a < 900000 ∧ a ≠ 64) (hz : ∀ j, h a j = 0) (e1 : BC = 1 + bc) (e2 : BS = N + bs) (hd : decode M.1 pc = .ok (.newarray aty, 2)) (kk : G_ M d bc bs (pc + 2) ls (.inr (some a) :: st) (tz_ a τ 13 N) h Z) : G_ M d BC BS pc ls (.inl n :: st) τ h Z := by
  subst ha; subst e1; subst e2; subst e0
  exact G_newaI hty hw hn (by omega) hd (by rw [hn_id hz]; exact kk)
theorem G_anewz {C : String} {n : Int} {idx ci N a BC BS : Nat} (hl : Cond.classLink M.2.1 idx C ∈ gb_LW) (hC2 : C ∈ gb_AO) (hci : (ci = 15 ∧ C = "MaypoleGreen$Person") ∨ (ci = 16 ∧ C = "MaypoleGreen$Steps") ∨ (ci = 17 ∧ C = "MaypoleGreen$Tape")) (hn : 0 ≤ n ∧ n < 100000) (e0 : n.toNat = N) (ha : τ.1 = a) (ht : a < 900000 ∧ a ≠ 64) (hz : ∀ j, h a j = 0) (e1 : BC = 1 + bc) (e2 : BS = N + bs) (hd : decode M.1 pc = .ok (.anewarray idx, 3)) (kk : G_ M d bc bs (pc + 3) ls (.inr (some a) :: st) (tz_ a τ ci N) h Z) : G_ M d BC BS pc ls (.inl n :: st) τ h Z := by
  subst ha; subst e1; subst e2; subst e0
  exact G_anew hl hC2 hci hn (by omega) hd (by rw [hn_id hz]; exact kk)
theorem G_callIc {M' : MT} {idx n a bc' bs' BC BS : Nat} {T : TT} {H : HT} {as st0 : List AV} (hc : gb_ci M.2.1 idx M' n) (hs : S_ M' d bc' bs' (.inr (some a) :: as) τ h (fun r τ' h' => r = none ∧ τ' = T ∧ h' = H)) (hst : as.reverse ++ .inr (some a) :: st = st0) (hn : as.length = n) (hl : st.length ≤ 8) (e1 : BC = bc' + bc) (e2 : BS = bs' + bs) (hd : decode M.1 pc = .ok (.invokespecial idx, 3)) (kk : G_ M (d + 1) bc bs (pc + 3) ls st T H Z) : G_ M (d + 1) BC BS pc ls st0 τ h Z := by
  subst e1; subst e2
  exact G_callI hc hs hst hn hl hd (fun r τ' h' q => by obtain ⟨rfl, rfl, rfl⟩ := q; exact kk)
theorem G_callINc {M' : MT} {idx n a bc' bs' BC BS : Nat} {host : String} {T : TT} {H : HT} {as st0 : List AV} (hc : gb_cin M.2.1 idx M' n host) (hs : S_ M' d bc' bs' (.inr (some a) :: as) τ h (fun r τ' h' => r = none ∧ τ' = T ∧ h' = H)) (hst : as.reverse ++ .inr (some a) :: st = st0) (hn : as.length = n) (hl : st.length ≤ 8) (e1 : BC = bc' + bc) (e2 : BS = bs' + bs) (hd : decode M.1 pc = .ok (.invokespecial idx, 3)) (kk : G_ M (d + 1) bc bs (pc + 3) ls st T H Z) : G_ M (d + 1) BC BS pc ls st0 τ h Z := by
  subst e1; subst e2
  exact G_callIN hc hs hst hn hl hd (fun r τ' h' q => by obtain ⟨rfl, rfl, rfl⟩ := q; exact kk)
theorem G_noz {a : Nat} (ha : τ.1 = a) (e : a = 64) (kk : G_ M d bc bs pc ls st (tz_ a τ 14 0) h Z) : G_ M d bc bs pc ls st τ h Z := by
  subst ha
  exact G_no e kk
end GZ
theorem x_iX0 (d : Nat) (τ : TT) (o : Nat) (ho : ob_ τ o 0) (e : τ.1 = o + 1) (ht : o < 800000 ∧ (o + 7 ≤ 64 ∨ 64 < o)) : S_ mX0_init (d + 1) 1 20 [.inr (some o)] τ h0_ (fun r τ1 h1 => r = none ∧ τ1 = (tr_ (tz_ (o + 1) τ 13 20) o 0 (some (o + 1))) ∧ h1 = h0_) := by
  refine S_go (k := 0) (ls := [some (.inr (some o))]) (by decide) rfl (Nat.le_of_ble_eq_true rfl) rfl ?_
  refine G_aload_n (i := 0) dX0_init_0 rfl rfl ?_
  refine G_obj qX0_3 (Nat.le_of_ble_eq_true rfl) dX0_init_1 ?_
  refine G_aload_n (i := 0) dX0_init_4 rfl rfl ?_
  refine G_bipush dX0_init_5 (by decide) ?_
  refine G_newaIz (N := 20) (a := (o + 1)) (bc := 0) (bs := 0) rfl acI (by decide) rfl e (by omega) (fun _ => rfl) rfl rfl dX0_init_7 ?_
  refine G_putFR fX0_11 ⟨rfl, rfl⟩ rfl dX0_init_9 (ob_z e ho) ?_
  refine G_aload_n (i := 0) dX0_init_12 rfl rfl ?_
  refine G_iconst dX0_init_13 ?_
  refine G_putI fX0_15 dX0_init_14 (ob_r (ob_z e ho)) ?_
  rw [hs_id (h := h0_) (a := o) (k := 1) (v := 0) rfl]
  exact G_vret rfl dX0_init_17 ⟨rfl, rfl, rfl⟩
theorem x_iX1 (d : Nat) (τ : TT) (o : Nat) (ho : ob_ τ o 1) (e : τ.1 = o + 1) (ht : o < 800000 ∧ (o + 7 ≤ 64 ∨ 64 < o)) : S_ mX1_init (d + 1) 4 2709 [.inr (some o)] τ h0_ (fun r τ1 h1 => r = none ∧ τ1 = (tr_ (tz_ (o + 4) (tr_ (tz_ (o + 3) (tr_ (tz_ (o + 2) (tr_ (tz_ (o + 1) τ 13 900) o 2 (some (o + 1))) 13 900) o 3 (some (o + 2))) 13 900) o 4 (some (o + 3))) 13 9) o 5 (some (o + 4))) ∧ h1 = h0_) := by
  refine S_go (k := 0) (ls := [some (.inr (some o))]) (by decide) rfl (Nat.le_of_ble_eq_true rfl) rfl ?_
  refine G_aload_n (i := 0) dX1_init_0 rfl rfl ?_
  refine G_obj qX1_3 (Nat.le_of_ble_eq_true rfl) dX1_init_1 ?_
  refine G_aload_n (i := 0) dX1_init_4 rfl rfl ?_
  refine G_iconst dX1_init_5 ?_
  refine G_putI fX1_9 dX1_init_6 ho ?_
  rw [hs_id (h := h0_) (a := o) (k := 0) (v := 0) rfl]
  refine G_aload_n (i := 0) dX1_init_9 rfl rfl ?_
  refine G_iconst dX1_init_10 ?_
  refine G_putI fX1_15 dX1_init_11 ho ?_
  rw [hs_id (h := h0_) (a := o) (k := 1) (v := 0) rfl]
  refine G_aload_n (i := 0) dX1_init_14 rfl rfl ?_
  refine G_sipush dX1_init_15 (by decide) ?_
  refine G_newaIz (N := 900) (a := (o + 1)) (bc := 3) (bs := 1809) rfl acI (by decide) rfl e (by omega) (fun _ => rfl) rfl rfl dX1_init_18 ?_
  refine G_putFR fX1_18 ⟨rfl, rfl⟩ rfl dX1_init_20 (ob_z e ho) ?_
  refine G_aload_n (i := 0) dX1_init_23 rfl rfl ?_
  refine G_sipush dX1_init_24 (by decide) ?_
  refine G_newaIz (N := 900) (a := (o + 2)) (bc := 2) (bs := 909) rfl acI (by decide) rfl rfl (by omega) (fun _ => rfl) rfl rfl dX1_init_27 ?_
  refine G_putFR fX1_22 ⟨rfl, rfl⟩ rfl dX1_init_29 (ob_z rfl (ob_r (ob_z e ho))) ?_
  refine G_aload_n (i := 0) dX1_init_32 rfl rfl ?_
  refine G_sipush dX1_init_33 (by decide) ?_
  refine G_newaIz (N := 900) (a := (o + 3)) (bc := 1) (bs := 9) rfl acI (by decide) rfl rfl (by omega) (fun _ => rfl) rfl rfl dX1_init_36 ?_
  refine G_putFR fX1_25 ⟨rfl, rfl⟩ rfl dX1_init_38 (ob_z rfl (ob_r (ob_z rfl (ob_r (ob_z e ho))))) ?_
  refine G_aload_n (i := 0) dX1_init_41 rfl rfl ?_
  refine G_bipush dX1_init_42 (by decide) ?_
  refine G_newaIz (N := 9) (a := (o + 4)) (bc := 0) (bs := 0) rfl acI (by decide) rfl rfl (by omega) (fun _ => rfl) rfl rfl dX1_init_44 ?_
  refine G_putFR fX1_28 ⟨rfl, rfl⟩ rfl dX1_init_46 (ob_z rfl (ob_r (ob_z rfl (ob_r (ob_z rfl (ob_r (ob_z e ho))))))) ?_
  exact G_vret rfl dX1_init_49 ⟨rfl, rfl, rfl⟩
theorem x_iX2 (d : Nat) (τ : TT) (o : Nat) (ho : ob_ τ o 2) (e : τ.1 = o + 1) (ht : o < 800000 ∧ (o + 7 ≤ 64 ∨ 64 < o)) : S_ mX2_init (d + 1) 4 36 [.inr (some o)] τ h0_ (fun r τ1 h1 => r = none ∧ τ1 = (tr_ (tz_ (o + 4) (tr_ (tz_ (o + 3) (tr_ (tz_ (o + 2) (tr_ (tz_ (o + 1) τ 13 9) o 3 (some (o + 1))) 13 9) o 4 (some (o + 2))) 13 9) o 5 (some (o + 3))) 13 9) o 6 (some (o + 4))) ∧ h1 = h0_) := by
  refine S_go (k := 0) (ls := [some (.inr (some o))]) (by decide) rfl (Nat.le_of_ble_eq_true rfl) rfl ?_
  refine G_aload_n (i := 0) dX2_init_0 rfl rfl ?_
  refine G_obj qX2_3 (Nat.le_of_ble_eq_true rfl) dX2_init_1 ?_
  refine G_aload_n (i := 0) dX2_init_4 rfl rfl ?_
  refine G_iconst dX2_init_5 ?_
  refine G_putI fX2_9 dX2_init_6 ho ?_
  rw [hs_id (h := h0_) (a := o) (k := 0) (v := 0) rfl]
  refine G_aload_n (i := 0) dX2_init_9 rfl rfl ?_
  refine G_iconst dX2_init_10 ?_
  refine G_putI fX2_15 dX2_init_11 ho ?_
  rw [hs_id (h := h0_) (a := o) (k := 1) (v := 0) rfl]
  refine G_aload_n (i := 0) dX2_init_14 rfl rfl ?_
  refine G_iconst dX2_init_15 ?_
  refine G_putI fX2_18 dX2_init_16 ho ?_
  rw [hs_id (h := h0_) (a := o) (k := 2) (v := 0) rfl]
  refine G_aload_n (i := 0) dX2_init_19 rfl rfl ?_
  refine G_bipush dX2_init_20 (by decide) ?_
  refine G_newaIz (N := 9) (a := (o + 1)) (bc := 3) (bs := 27) rfl acI (by decide) rfl e (by omega) (fun _ => rfl) rfl rfl dX2_init_22 ?_
  refine G_putFR fX2_21 ⟨rfl, rfl⟩ rfl dX2_init_24 (ob_z e ho) ?_
  refine G_aload_n (i := 0) dX2_init_27 rfl rfl ?_
  refine G_bipush dX2_init_28 (by decide) ?_
  refine G_newaIz (N := 9) (a := (o + 2)) (bc := 2) (bs := 18) rfl acI (by decide) rfl rfl (by omega) (fun _ => rfl) rfl rfl dX2_init_30 ?_
  refine G_putFR fX2_25 ⟨rfl, rfl⟩ rfl dX2_init_32 (ob_z rfl (ob_r (ob_z e ho))) ?_
  refine G_aload_n (i := 0) dX2_init_35 rfl rfl ?_
  refine G_bipush dX2_init_36 (by decide) ?_
  refine G_newaIz (N := 9) (a := (o + 3)) (bc := 1) (bs := 9) rfl acI (by decide) rfl rfl (by omega) (fun _ => rfl) rfl rfl dX2_init_38 ?_
  refine G_putFR fX2_28 ⟨rfl, rfl⟩ rfl dX2_init_40 (ob_z rfl (ob_r (ob_z rfl (ob_r (ob_z e ho))))) ?_
  refine G_aload_n (i := 0) dX2_init_43 rfl rfl ?_
  refine G_bipush dX2_init_44 (by decide) ?_
  refine G_newaIz (N := 9) (a := (o + 4)) (bc := 0) (bs := 0) rfl acI (by decide) rfl rfl (by omega) (fun _ => rfl) rfl rfl dX2_init_46 ?_
  refine G_putFR fX2_31 ⟨rfl, rfl⟩ rfl dX2_init_48 (ob_z rfl (ob_r (ob_z rfl (ob_r (ob_z rfl (ob_r (ob_z e ho))))))) ?_
  exact G_vret rfl dX2_init_51 ⟨rfl, rfl, rfl⟩
theorem x_iX3 (d : Nat) (τ : TT) (o : Nat) (ho : ob_ τ o 3) (e : τ.1 = o + 1) (ht : o < 800000 ∧ (o + 7 ≤ 64 ∨ 64 < o)) : S_ mX3_init (d + 1) 4 909 [.inr (some o)] τ h0_ (fun r τ1 h1 => r = none ∧ τ1 = (tr_ (tz_ (o + 4) (tr_ (tz_ (o + 3) (tr_ (tz_ (o + 2) (tr_ (tz_ (o + 1) τ 13 300) o 2 (some (o + 1))) 13 300) o 3 (some (o + 2))) 13 300) o 5 (some (o + 3))) 13 9) o 6 (some (o + 4))) ∧ h1 = h0_) := by
  refine S_go (k := 0) (ls := [some (.inr (some o))]) (by decide) rfl (Nat.le_of_ble_eq_true rfl) rfl ?_
  refine G_aload_n (i := 0) dX3_init_0 rfl rfl ?_
  refine G_obj qX3_3 (Nat.le_of_ble_eq_true rfl) dX3_init_1 ?_
  refine G_aload_n (i := 0) dX3_init_4 rfl rfl ?_
  refine G_iconst dX3_init_5 ?_
  refine G_putI fX3_9 dX3_init_6 ho ?_
  rw [hs_id (h := h0_) (a := o) (k := 0) (v := 0) rfl]
  refine G_aload_n (i := 0) dX3_init_9 rfl rfl ?_
  refine G_iconst dX3_init_10 ?_
  refine G_putI fX3_15 dX3_init_11 ho ?_
  rw [hs_id (h := h0_) (a := o) (k := 1) (v := 0) rfl]
  refine G_aload_n (i := 0) dX3_init_14 rfl rfl ?_
  refine G_sipush dX3_init_15 (by decide) ?_
  refine G_newaIz (N := 300) (a := (o + 1)) (bc := 3) (bs := 609) rfl acI (by decide) rfl e (by omega) (fun _ => rfl) rfl rfl dX3_init_18 ?_
  refine G_putFR fX3_18 ⟨rfl, rfl⟩ rfl dX3_init_20 (ob_z e ho) ?_
  refine G_aload_n (i := 0) dX3_init_23 rfl rfl ?_
  refine G_sipush dX3_init_24 (by decide) ?_
  refine G_newaIz (N := 300) (a := (o + 2)) (bc := 2) (bs := 309) rfl acI (by decide) rfl rfl (by omega) (fun _ => rfl) rfl rfl dX3_init_27 ?_
  refine G_putFR fX3_22 ⟨rfl, rfl⟩ rfl dX3_init_29 (ob_z rfl (ob_r (ob_z e ho))) ?_
  refine G_aload_n (i := 0) dX3_init_32 rfl rfl ?_
  refine G_iconst dX3_init_33 ?_
  refine G_putI fX3_25 dX3_init_34 (ob_r (ob_z rfl (ob_r (ob_z e ho)))) ?_
  rw [hs_id (h := h0_) (a := o) (k := 4) (v := 0) rfl]
  refine G_aload_n (i := 0) dX3_init_37 rfl rfl ?_
  refine G_sipush dX3_init_38 (by decide) ?_
  refine G_newaIz (N := 300) (a := (o + 3)) (bc := 1) (bs := 9) rfl acI (by decide) rfl rfl (by omega) (fun _ => rfl) rfl rfl dX3_init_41 ?_
  refine G_putFR fX3_28 ⟨rfl, rfl⟩ rfl dX3_init_43 (ob_z rfl (ob_r (ob_z rfl (ob_r (ob_z e ho))))) ?_
  refine G_aload_n (i := 0) dX3_init_46 rfl rfl ?_
  refine G_bipush dX3_init_47 (by decide) ?_
  refine G_newaIz (N := 9) (a := (o + 4)) (bc := 0) (bs := 0) rfl acI (by decide) rfl rfl (by omega) (fun _ => rfl) rfl rfl dX3_init_49 ?_
  refine G_putFR fX3_31 ⟨rfl, rfl⟩ rfl dX3_init_51 (ob_z rfl (ob_r (ob_z rfl (ob_r (ob_z rfl (ob_r (ob_z e ho))))))) ?_
  exact G_vret rfl dX3_init_54 ⟨rfl, rfl, rfl⟩
theorem x_iX4 (d : Nat) (τ : TT) (o : Nat) (ho : ob_ τ o 4) (e : τ.1 = o + 1) (ht : o < 800000 ∧ (o + 7 ≤ 64 ∨ 64 < o)) : S_ mX4_init (d + 1) 4 67 [.inr (some o)] τ h0_ (fun r τ1 h1 => r = none ∧ τ1 = (tr_ (tz_ (o + 4) (tr_ (tz_ (o + 3) (tr_ (tz_ (o + 2) (tr_ (tz_ (o + 1) τ 13 9) o 0 (some (o + 1))) 13 9) o 1 (some (o + 2))) 13 9) o 2 (some (o + 3))) 13 40) o 3 (some (o + 4))) ∧ h1 = h0_) := by
  refine S_go (k := 0) (ls := [some (.inr (some o))]) (by decide) rfl (Nat.le_of_ble_eq_true rfl) rfl ?_
  refine G_aload_n (i := 0) dX4_init_0 rfl rfl ?_
  refine G_obj qX4_3 (Nat.le_of_ble_eq_true rfl) dX4_init_1 ?_
  refine G_aload_n (i := 0) dX4_init_4 rfl rfl ?_
  refine G_bipush dX4_init_5 (by decide) ?_
  refine G_newaIz (N := 9) (a := (o + 1)) (bc := 3) (bs := 58) rfl acI (by decide) rfl e (by omega) (fun _ => rfl) rfl rfl dX4_init_7 ?_
  refine G_putFR fX4_9 ⟨rfl, rfl⟩ rfl dX4_init_9 (ob_z e ho) ?_
  refine G_aload_n (i := 0) dX4_init_12 rfl rfl ?_
  refine G_bipush dX4_init_13 (by decide) ?_
  refine G_newaIz (N := 9) (a := (o + 2)) (bc := 2) (bs := 49) rfl acI (by decide) rfl rfl (by omega) (fun _ => rfl) rfl rfl dX4_init_15 ?_
  refine G_putFR fX4_15 ⟨rfl, rfl⟩ rfl dX4_init_17 (ob_z rfl (ob_r (ob_z e ho))) ?_
  refine G_aload_n (i := 0) dX4_init_20 rfl rfl ?_
  refine G_bipush dX4_init_21 (by decide) ?_
  refine G_newaIz (N := 9) (a := (o + 3)) (bc := 1) (bs := 40) rfl acI (by decide) rfl rfl (by omega) (fun _ => rfl) rfl rfl dX4_init_23 ?_
  refine G_putFR fX4_18 ⟨rfl, rfl⟩ rfl dX4_init_25 (ob_z rfl (ob_r (ob_z rfl (ob_r (ob_z e ho))))) ?_
  refine G_aload_n (i := 0) dX4_init_28 rfl rfl ?_
  refine G_bipush dX4_init_29 (by decide) ?_
  refine G_newaIz (N := 40) (a := (o + 4)) (bc := 0) (bs := 0) rfl acI (by decide) rfl rfl (by omega) (fun _ => rfl) rfl rfl dX4_init_31 ?_
  refine G_putFR fX4_21 ⟨rfl, rfl⟩ rfl dX4_init_33 (ob_z rfl (ob_r (ob_z rfl (ob_r (ob_z rfl (ob_r (ob_z e ho))))))) ?_
  refine G_aload_n (i := 0) dX4_init_36 rfl rfl ?_
  refine G_iconst dX4_init_37 ?_
  refine G_putI fX4_24 dX4_init_38 (ob_r (ob_z rfl (ob_r (ob_z rfl (ob_r (ob_z rfl (ob_r (ob_z e ho)))))))) ?_
  rw [hs_id (h := h0_) (a := o) (k := 4) (v := 0) rfl]
  exact G_vret rfl dX4_init_41 ⟨rfl, rfl, rfl⟩
theorem x_iX6 (d : Nat) (τ : TT) (o : Nat) (ho : ob_ τ o 6) (e : τ.1 = o + 1) (ht : o < 800000 ∧ (o + 7 ≤ 64 ∨ 64 < o)) : S_ mX6_init (d + 1) 5 201 [.inr (some o)] τ h0_ (fun r τ1 h1 => r = none ∧ τ1 = (tr_ (tz_ (o + 5) (tr_ (tz_ (o + 4) (tr_ (tz_ (o + 3) (tr_ (tz_ (o + 2) (tr_ (tz_ (o + 1) τ 13 40) o 0 (some (o + 1))) 13 40) o 1 (some (o + 2))) 13 40) o 2 (some (o + 3))) 13 72) o 4 (some (o + 4))) 13 9) o 5 (some (o + 5))) ∧ h1 = h0_) := by
  refine S_go (k := 0) (ls := [some (.inr (some o))]) (by decide) rfl (Nat.le_of_ble_eq_true rfl) rfl ?_
  refine G_aload_n (i := 0) dX6_init_0 rfl rfl ?_
  refine G_obj qX6_3 (Nat.le_of_ble_eq_true rfl) dX6_init_1 ?_
  refine G_aload_n (i := 0) dX6_init_4 rfl rfl ?_
  refine G_bipush dX6_init_5 (by decide) ?_
  refine G_newaIz (N := 40) (a := (o + 1)) (bc := 4) (bs := 161) rfl acI (by decide) rfl e (by omega) (fun _ => rfl) rfl rfl dX6_init_7 ?_
  refine G_putFR fX6_9 ⟨rfl, rfl⟩ rfl dX6_init_9 (ob_z e ho) ?_
  refine G_aload_n (i := 0) dX6_init_12 rfl rfl ?_
  refine G_bipush dX6_init_13 (by decide) ?_
  refine G_newaIz (N := 40) (a := (o + 2)) (bc := 3) (bs := 121) rfl acI (by decide) rfl rfl (by omega) (fun _ => rfl) rfl rfl dX6_init_15 ?_
  refine G_putFR fX6_15 ⟨rfl, rfl⟩ rfl dX6_init_17 (ob_z rfl (ob_r (ob_z e ho))) ?_
  refine G_aload_n (i := 0) dX6_init_20 rfl rfl ?_
  refine G_bipush dX6_init_21 (by decide) ?_
  refine G_newaIz (N := 40) (a := (o + 3)) (bc := 2) (bs := 81) rfl acI (by decide) rfl rfl (by omega) (fun _ => rfl) rfl rfl dX6_init_23 ?_
  refine G_putFR fX6_18 ⟨rfl, rfl⟩ rfl dX6_init_25 (ob_z rfl (ob_r (ob_z rfl (ob_r (ob_z e ho))))) ?_
  refine G_aload_n (i := 0) dX6_init_28 rfl rfl ?_
  refine G_iconst dX6_init_29 ?_
  refine G_putI fX6_21 dX6_init_30 (ob_r (ob_z rfl (ob_r (ob_z rfl (ob_r (ob_z e ho)))))) ?_
  rw [hs_id (h := h0_) (a := o) (k := 3) (v := 0) rfl]
  refine G_aload_n (i := 0) dX6_init_33 rfl rfl ?_
  refine G_bipush dX6_init_34 (by decide) ?_
  refine G_newaIz (N := 72) (a := (o + 4)) (bc := 1) (bs := 9) rfl acI (by decide) rfl rfl (by omega) (fun _ => rfl) rfl rfl dX6_init_36 ?_
  refine G_putFR fX6_25 ⟨rfl, rfl⟩ rfl dX6_init_38 (ob_z rfl (ob_r (ob_z rfl (ob_r (ob_z rfl (ob_r (ob_z e ho))))))) ?_
  refine G_aload_n (i := 0) dX6_init_41 rfl rfl ?_
  refine G_bipush dX6_init_42 (by decide) ?_
  refine G_newaIz (N := 9) (a := (o + 5)) (bc := 0) (bs := 0) rfl acI (by decide) rfl rfl (by omega) (fun _ => rfl) rfl rfl dX6_init_44 ?_
  refine G_putFR fX6_28 ⟨rfl, rfl⟩ rfl dX6_init_46 (ob_z rfl (ob_r (ob_z rfl (ob_r (ob_z rfl (ob_r (ob_z rfl (ob_r (ob_z e ho))))))))) ?_
  refine G_aload_n (i := 0) dX6_init_49 rfl rfl ?_
  refine G_iconst dX6_init_50 ?_
  refine G_putI fX6_31 dX6_init_51 (ob_r (ob_z rfl (ob_r (ob_z rfl (ob_r (ob_z rfl (ob_r (ob_z rfl (ob_r (ob_z e ho)))))))))) ?_
  rw [hs_id (h := h0_) (a := o) (k := 6) (v := 0) rfl]
  exact G_vret rfl dX6_init_54 ⟨rfl, rfl, rfl⟩
theorem x_iX8 (d : Nat) (τ : TT) (o : Nat) (ho : ob_ τ o 8) (e : τ.1 = o + 1) (ht : o = 60) : S_ mX8_init (d + 1) 6 42 [.inr (some o)] τ h0_ (fun r τ1 h1 => r = none ∧ τ1 = (tr_ (tz_ (o + 7) (tr_ (tz_ (o + 6) (tr_ (tz_ (o + 5) (tz_ (o + 4) (tr_ (tz_ (o + 3) (tr_ (tz_ (o + 2) (tr_ (tz_ (o + 1) τ 13 7) o 1 (some (o + 1))) 13 7) o 2 (some (o + 2))) 13 7) o 3 (some (o + 3))) 14 0) 13 7) o 4 (some (o + 5))) 13 7) o 5 (some (o + 6))) 13 7) o 6 (some (o + 7))) ∧ h1 = h0_) := by
  refine S_go (k := 0) (ls := [some (.inr (some o))]) (by decide) rfl (Nat.le_of_ble_eq_true rfl) rfl ?_
  refine G_aload_n (i := 0) dX8_init_0 rfl rfl ?_
  refine G_obj qX8_3 (Nat.le_of_ble_eq_true rfl) dX8_init_1 ?_
  refine G_aload_n (i := 0) dX8_init_4 rfl rfl ?_
  refine G_iconst dX8_init_5 ?_
  refine G_putI fX8_9 dX8_init_6 ho ?_
  rw [hs_id (h := h0_) (a := o) (k := 0) (v := 0) rfl]
  refine G_aload_n (i := 0) dX8_init_9 rfl rfl ?_
  refine G_bipush dX8_init_10 (by decide) ?_
  refine G_newaIz (N := 7) (a := (o + 1)) (bc := 5) (bs := 35) rfl acI (by decide) rfl e (by omega) (fun _ => rfl) rfl rfl dX8_init_12 ?_
  refine G_putFR fX8_15 ⟨rfl, rfl⟩ rfl dX8_init_14 (ob_z e ho) ?_
  refine G_aload_n (i := 0) dX8_init_17 rfl rfl ?_
  refine G_bipush dX8_init_18 (by decide) ?_
  refine G_newaIz (N := 7) (a := (o + 2)) (bc := 4) (bs := 28) rfl acI (by decide) rfl rfl (by omega) (fun _ => rfl) rfl rfl dX8_init_20 ?_
  refine G_putFR fX8_19 ⟨rfl, rfl⟩ rfl dX8_init_22 (ob_z rfl (ob_r (ob_z e ho))) ?_
  refine G_aload_n (i := 0) dX8_init_25 rfl rfl ?_
  refine G_bipush dX8_init_26 (by decide) ?_
  refine G_newaIz (N := 7) (a := (o + 3)) (bc := 3) (bs := 21) rfl acI (by decide) rfl rfl (by omega) (fun _ => rfl) rfl rfl dX8_init_28 ?_
  refine G_putFR fX8_22 ⟨rfl, rfl⟩ rfl dX8_init_30 (ob_z rfl (ob_r (ob_z rfl (ob_r (ob_z e ho))))) ?_
  refine G_aload_n (i := 0) dX8_init_33 rfl rfl ?_
  refine G_bipush dX8_init_34 (by decide) ?_
  refine G_noz (a := (o + 4)) rfl (by omega) ?_
  refine G_newaIz (N := 7) (a := (o + 5)) (bc := 2) (bs := 14) rfl acI (by decide) rfl rfl (by omega) (fun _ => rfl) rfl rfl dX8_init_36 ?_
  refine G_putFR fX8_25 ⟨rfl, rfl⟩ rfl dX8_init_38 (ob_z rfl (ob_z rfl (ob_r (ob_z rfl (ob_r (ob_z rfl (ob_r (ob_z e ho)))))))) ?_
  refine G_aload_n (i := 0) dX8_init_41 rfl rfl ?_
  refine G_bipush dX8_init_42 (by decide) ?_
  refine G_newaIz (N := 7) (a := (o + 6)) (bc := 1) (bs := 7) rfl acI (by decide) rfl rfl (by omega) (fun _ => rfl) rfl rfl dX8_init_44 ?_
  refine G_putFR fX8_28 ⟨rfl, rfl⟩ rfl dX8_init_46 (ob_z rfl (ob_r (ob_z rfl (ob_z rfl (ob_r (ob_z rfl (ob_r (ob_z rfl (ob_r (ob_z e ho)))))))))) ?_
  refine G_aload_n (i := 0) dX8_init_49 rfl rfl ?_
  refine G_bipush dX8_init_50 (by decide) ?_
  refine G_newaIz (N := 7) (a := (o + 7)) (bc := 0) (bs := 0) rfl acI (by decide) rfl rfl (by omega) (fun _ => rfl) rfl rfl dX8_init_52 ?_
  refine G_putFR fX8_31 ⟨rfl, rfl⟩ rfl dX8_init_54 (ob_z rfl (ob_r (ob_z rfl (ob_r (ob_z rfl (ob_z rfl (ob_r (ob_z rfl (ob_r (ob_z rfl (ob_r (ob_z e ho)))))))))))) ?_
  refine G_aload_n (i := 0) dX8_init_57 rfl rfl ?_
  refine G_iconst dX8_init_58 ?_
  refine G_putI fX8_34 dX8_init_59 (ob_r (ob_z rfl (ob_r (ob_z rfl (ob_r (ob_z rfl (ob_z rfl (ob_r (ob_z rfl (ob_r (ob_z rfl (ob_r (ob_z e ho))))))))))))) ?_
  rw [hs_id (h := h0_) (a := o) (k := 7) (v := 0) rfl]
  exact G_vret rfl dX8_init_62 ⟨rfl, rfl, rfl⟩
theorem x_iX9 (d : Nat) (τ : TT) (o : Nat) (ho : ob_ τ o 9) (e : τ.1 = o + 1) (ht : o < 800000 ∧ (o + 7 ≤ 64 ∨ 64 < o)) : S_ mX9_init (d + 1) 1 300 [.inr (some o), .inl 300] τ h0_ (fun r τ1 h1 => r = none ∧ τ1 = (tr_ (tz_ (o + 1) τ 13 300) o 0 (some (o + 1))) ∧ h1 = h0_) := by
  refine S_go (k := 0) (ls := [some (.inr (some o)), some (.inl 300)]) (by decide) rfl (Nat.le_of_ble_eq_true rfl) rfl ?_
  refine G_aload_n (i := 0) dX9_init_0 rfl rfl ?_
  refine G_obj qX9_3 (Nat.le_of_ble_eq_true rfl) dX9_init_1 ?_
  refine G_aload_n (i := 0) dX9_init_4 rfl rfl ?_
  refine G_iconst dX9_init_5 ?_
  refine G_putI fX9_9 dX9_init_6 ho ?_
  rw [hs_id (h := h0_) (a := o) (k := 1) (v := 0) rfl]
  refine G_aload_n (i := 0) dX9_init_9 rfl rfl ?_
  refine G_iload_n (i := 1) dX9_init_10 rfl rfl ?_
  refine G_newaIz (N := 300) (a := (o + 1)) (bc := 0) (bs := 0) rfl acI (by decide) rfl e (by omega) (fun _ => rfl) rfl rfl dX9_init_11 ?_
  refine G_putFR fX9_15 ⟨rfl, rfl⟩ rfl dX9_init_13 (ob_z e ho) ?_
  exact G_vret rfl dX9_init_16 ⟨rfl, rfl, rfl⟩
theorem x_iX7 (d : Nat) (τ : TT) (o : Nat) (ho : ob_ τ o 7) (e : τ.1 = o + 1) (ht : o < 700000 ∧ (o + 12 ≤ 64 ∨ 64 < o)) : S_ mX7_init (d + 2) 5 396 [.inr (some o)] τ h0_ (fun r τ1 h1 => r = none ∧ τ1 = (tr_ (tz_ (o + 5) (tr_ (tr_ (tz_ (o + 4) (tz_ (o + 3) (tr_ (tz_ (o + 2) (tr_ (tz_ (o + 1) τ 16 10) o 0 (some (o + 1))) 13 80) o 2 (some (o + 2))) 9 0) 13 300) (o + 3) 0 (some (o + 4))) o 4 (some (o + 3))) 13 4) o 6 (some (o + 5))) ∧ h1 = h0_) := by
  refine S_go (k := 0) (ls := [some (.inr (some o))]) (by decide) rfl (Nat.le_of_ble_eq_true rfl) rfl ?_
  refine G_aload_n (i := 0) dX7_init_0 rfl rfl ?_
  refine G_obj qX7_3 (Nat.le_of_ble_eq_true rfl) dX7_init_1 ?_
  refine G_aload_n (i := 0) dX7_init_4 rfl rfl ?_
  refine G_bipush dX7_init_5 (by decide) ?_
  refine G_anewz (ci := 16) (N := 10) (a := (o + 1)) (bc := 4) (bs := 386) kX7_9 (by decide) (by decide) (by decide) rfl e (by omega) (fun _ => rfl) rfl rfl dX7_init_7 ?_
  refine G_putFR fX7_11 ⟨rfl, rfl⟩ rfl dX7_init_10 (ob_z e ho) ?_
  refine G_aload_n (i := 0) dX7_init_13 rfl rfl ?_
  refine G_iconst dX7_init_14 ?_
  refine G_putI fX7_17 dX7_init_15 (ob_r (ob_z e ho)) ?_
  rw [hs_id (h := h0_) (a := o) (k := 1) (v := 0) rfl]
  refine G_aload_n (i := 0) dX7_init_18 rfl rfl ?_
  refine G_bipush dX7_init_19 (by decide) ?_
  refine G_newaIz (N := 80) (a := (o + 2)) (bc := 3) (bs := 306) rfl acI (by decide) rfl rfl (by omega) (fun _ => rfl) rfl rfl dX7_init_21 ?_
  refine G_putFR fX7_21 ⟨rfl, rfl⟩ rfl dX7_init_23 (ob_z rfl (ob_r (ob_z e ho))) ?_
  refine G_aload_n (i := 0) dX7_init_26 rfl rfl ?_
  refine G_iconst dX7_init_27 ?_
  refine G_putI fX7_25 dX7_init_28 (ob_r (ob_z rfl (ob_r (ob_z e ho)))) ?_
  rw [hs_id (h := h0_) (a := o) (k := 3) (v := 0) rfl]
  refine G_aload_n (i := 0) dX7_init_31 rfl rfl ?_
  refine G_newz (a := (o + 3)) (bc := 2) (bs := 304) cl9 kX7_9 (by decide) rfl (by omega) (fun _ => rfl) rfl rfl dX7_init_32 ?_
  refine G_dup dX7_init_35 ?_
  refine G_sipush dX7_init_36 (by decide) ?_
  refine G_callIc (as := [.inl 300]) (bc := 1) (bs := 4) qX7_28 (x_iX9 d _ (o + 3) ob_z0 rfl (by omega)) rfl rfl (Nat.le_of_ble_eq_true rfl) rfl rfl dX7_init_39 ?_
  refine G_putFR fX7_31 ⟨rfl, rfl⟩ rfl dX7_init_42 (ob_r (ob_z rfl (ob_z rfl (ob_r (ob_z rfl (ob_r (ob_z e ho))))))) ?_
  refine G_aload_n (i := 0) dX7_init_45 rfl rfl ?_
  refine G_iconst dX7_init_46 ?_
  refine G_putZ fX7_35 (by decide) dX7_init_47 (ob_r (ob_r (ob_z rfl (ob_z rfl (ob_r (ob_z rfl (ob_r (ob_z e ho)))))))) ?_
  rw [hs_id (h := h0_) (a := o) (k := 5) (v := 0) rfl]
  refine G_aload_n (i := 0) dX7_init_50 rfl rfl ?_
  refine G_iconst dX7_init_51 ?_
  refine G_newaIz (N := 4) (a := (o + 5)) (bc := 0) (bs := 0) rfl acI (by decide) rfl rfl (by omega) (fun _ => rfl) rfl rfl dX7_init_52 ?_
  refine G_putFR fX7_39 ⟨rfl, rfl⟩ rfl dX7_init_54 (ob_z rfl (ob_r (ob_r (ob_z rfl (ob_z rfl (ob_r (ob_z rfl (ob_r (ob_z e ho))))))))) ?_
  refine G_aload_n (i := 0) dX7_init_57 rfl rfl ?_
  refine G_iconst dX7_init_58 ?_
  refine G_putI fX7_42 dX7_init_59 (ob_r (ob_z rfl (ob_r (ob_r (ob_z rfl (ob_z rfl (ob_r (ob_z rfl (ob_r (ob_z e ho)))))))))) ?_
  rw [hs_id (h := h0_) (a := o) (k := 7) (v := 0) rfl]
  exact G_vret rfl dX7_init_62 ⟨rfl, rfl, rfl⟩
theorem x_iX10 (d : Nat) (τ : TT) (o : Nat) (ho : ob_ τ o 10) (e : τ.1 = o + 1) (ht : o < 800000 ∧ (o + 7 ≤ 64 ∨ 64 < o)) (h : HT) (z0 : ∀ j, h o j = 0) (z1 : ∀ j, h (o + 1) j = 0) : S_ mX10_init (d + 1) 1 60 [.inr (some o)] τ h (fun r τ1 h1 => r = none ∧ τ1 = (tr_ (tz_ (o + 1) τ 13 60) o 2 (some (o + 1))) ∧ h1 = (hs_ h o 0 (-1))) := by
  refine S_go (k := 0) (ls := [some (.inr (some o))]) (by decide) rfl (Nat.le_of_ble_eq_true rfl) rfl ?_
  refine G_aload_n (i := 0) dX10_init_0 rfl rfl ?_
  refine G_obj qX10_3 (Nat.le_of_ble_eq_true rfl) dX10_init_1 ?_
  refine G_aload_n (i := 0) dX10_init_4 rfl rfl ?_
  refine G_iconst dX10_init_5 ?_
  refine G_putI fX10_9 dX10_init_6 ho ?_
  refine G_aload_n (i := 0) dX10_init_9 rfl rfl ?_
  refine G_iconst dX10_init_10 ?_
  refine G_putI fX10_15 dX10_init_11 ho ?_
  rw [hs_id (h := (hs_ h o 0 (-1))) (a := o) (k := 1) (v := 0) ((hs_ni (by decide)).trans (z0 _))]
  refine G_aload_n (i := 0) dX10_init_14 rfl rfl ?_
  refine G_bipush dX10_init_15 (by decide) ?_
  refine G_newaIz (N := 60) (a := (o + 1)) (bc := 0) (bs := 0) rfl acI (by decide) rfl e (by omega) (fun j => (hs_na (by omega)).trans (z1 j)) rfl rfl dX10_init_17 ?_
  refine G_putFR fX10_18 ⟨rfl, rfl⟩ rfl dX10_init_19 (ob_z e ho) ?_
  exact G_vret rfl dX10_init_22 ⟨rfl, rfl, rfl⟩
